import java.lang.reflect.Constructor;
import java.lang.reflect.Field;
import java.lang.reflect.Method;
import java.lang.reflect.Modifier;
import java.util.Set;
import java.util.TreeSet;

/** The public face is the document's and no more. */
public final class FaceTest {
  private static final String[] FACE = {
    "public InstructionCoder()",
    "public void InstructionCoder.op(int,int,int)",
    "public boolean InstructionCoder.operand(int,int,int)",
    "public void InstructionCoder.memory(int,int,int,int)",
    "public void InstructionCoder.number(long)",
    "public int InstructionCoder.encode() throws java.lang.IllegalArgumentException",
    "public int InstructionCoder.octet(int)",
    "public boolean InstructionCoder.feed(long,int)",
    "public int InstructionCoder.decode() throws java.lang.IllegalArgumentException",
    "public int InstructionCoder.field(int)",
    "public long InstructionCoder.value()",
  };

  public static void main(String[] args) {
    Check check = new Check();
    Class<?> face = InstructionCoder.class;
    Set<String> seen = new TreeSet<>();
    for (Constructor<?> c : face.getDeclaredConstructors()) {
      if (!Modifier.isPrivate(c.getModifiers())) seen.add(c.toString());
    }
    for (Method m : face.getDeclaredMethods()) {
      if (!Modifier.isPrivate(m.getModifiers())) seen.add(m.toString());
    }
    for (Field f : face.getDeclaredFields()) {
      if (!Modifier.isPrivate(f.getModifiers())) seen.add(f.toString());
    }
    check.due("the face", seen, new TreeSet<>(Set.of(FACE)));
    check.due("final", Modifier.isFinal(face.getModifiers()), true);
    for (Class<?> inside : face.getDeclaredClasses()) {
      check.due(inside + " is static", Modifier.isStatic(inside.getModifiers()), true);
      check.due(inside + " is public", Modifier.isPublic(inside.getModifiers()), false);
    }
    check.end();
  }
}
