import java.util.HashSet;
import java.util.Set;

/**
 * Terms: REGISTERS, AN INSTRUCTION and THE MEMORY, and of TO ENCODE that a line must have the op, the
 * size, the condition and operands of just these kinds: a test for each sentence that draws a bound.
 */
public final class InstructionBoundsTest {
  private static final int MIN = Integer.MIN_VALUE;
  private static final int MAX = Integer.MAX_VALUE;

  /** By op: the sizes ("v" 4 and 8), "c" for a condition, and the kinds of operands, from the table. */
  private static final String[] OPS = {
    "1v RR MR RM RN MN", "1v RR MR RM RN MN", "1v RR MR RM RN MN", "1v RR MR RM RN MN",
    "1v RR MR RM RN MN", "1v RR MR RM RN MN", "1v RR MR RM RN MN", "1v RR MR RM RN MN",
    "1v RR MR RM RN MN", "1v RR MR RN MN", "1v RR MR", "v RM",
    "v RR RM", "v RR RM", "8 RR RM", "1v R M", "1v R M", "1v R M", "1v R M", "1v R M", "1v R M", "1v R M", "1v R M",
    "v RR RM RRN RMN", "1v RN MN RR MR", "1v RN MN RR MR", "1v RN MN RR MR", "1v RN MN RR MR", "1v RN MN RR MR",
    "8 R N M", "8 R M", "0 N R M", "0 N R M", "0 - N", "0c N", "1c R M", "vc RR RM",
    "v -", "v -", "0 -", "0 -", "0 -", "0 -", "0 -", "v RR RM", "v RR RM", "v R", "v RR MR RN MN",
    "1v RR MR", "1v RR MR", "1v -", "1v -", "1v -", "1v -",
  };

  private static final Check check = new Check();

  public static void main(String[] args) {
    registersInEveryPlace();
    opBounds();
    sizeBounds();
    decodedSizes();
    conditionBounds();
    decodedConditions();
    kindsOfOperands();
    oneMemoryAtMost();
    oneNumberAtMost();
    decodedRegistersOfOtherKinds();
    baseBounds();
    indexBounds();
    scaleBounds();
    scaleWithoutAnIndex();
    displacementBounds();
    nextAddressHasNoIndex();
    decodedWithoutMemoryOrNumber();
    check.end();
  }

  private static String sizesOf(int op) {
    return OPS[op].substring(0, OPS[op].indexOf(' '));
  }

  private static String[] kindsOf(int op) {
    return OPS[op].substring(OPS[op].indexOf(' ') + 1).split(" ");
  }

  private static boolean hasSize(int op, int size) {
    String sizes = sizesOf(op);
    if (size == 4) return sizes.contains("v");
    if (size == 8) return sizes.contains("v") || sizes.contains("8");
    return (size == 0 || size == 1) && sizes.contains("" + size);
  }

  private static int someSize(int op) {
    return hasSize(op, 0) ? 0 : hasSize(op, 1) ? 1 : 8;
  }

  private static boolean hasCondition(int op) {
    return sizesOf(op).contains("c");
  }

  /** Operands of such kinds that any line with these kinds can tell: C and the number 1 among them. */
  private static String operands(String kinds) {
    StringBuilder text = new StringBuilder();
    for (char kind : kinds.toCharArray()) {
      text.append(kind == 'R' ? " r1" : kind == 'M' ? " m(3,2,4,5)" : kind == 'N' ? " n1" : " -");
    }
    return text.toString();
  }

  private static void tells(String fields, boolean due) {
    check.due("bytes of " + fields, !Check.encode(fields).equals("none"), due);
  }

  private static void registersInEveryPlace() {
    check.about("Terms, REGISTERS: 0 .. 15");
    String[] places = {
      "0 1 0 r%d r0", "0 4 0 r%d r0", "0 8 0 r0 r%d", "0 4 0 m(%d,-1,1,0) r0", "0 4 0 m(0,%d,2,0) r0", "0 4 0 r%d n1",
      "0 4 0 r%d m(16,-1,1,0)",
      "8 1 0 r%d n5", "8 4 0 r%d n5", "8 8 0 r%d n2147483648", "12 4 0 r0 r%d", "14 8 0 r%d r0", "15 1 0 r%d",
      "23 8 0 r0 r%d n1000",
      "24 4 0 r%d r1", "29 8 0 r%d", "30 8 0 r%d", "31 0 0 r%d", "32 0 0 r%d", "35 1 0 r%d", "36 4 0 r%d r0", "46 4 0 r%d",
      "47 4 0 r%d n5",
    };
    for (String place : places) {
      for (int register = 0; register <= 15; register++) {
        if (register == 4 && place.contains(",%d")) continue;
        String fields = String.format(place, register);
        check.due("encode and decode of " + fields, Check.thereAndBack(fields), fields);
      }
    }
  }

  private static void opBounds() {
    check.about("Terms, TO ENCODE: a line of the table must have their op");
    for (int op = 0; op <= 53; op++) tells(op + " " + someSize(op) + " 0" + operands(kindsOf(op)[0]), true);
    for (int op : new int[] {-1, -2, 54, 55, 64, 127, 128, 256, 256 + 39, 1 << 16, MIN, MIN + 39, MAX}) {
      for (int size : new int[] {0, 1, 4, 8}) {
        for (String kinds : new String[] {"-", "R", "M", "N", "RR", "MR", "RM", "RN", "MN", "RRN", "RMN"}) {
          tells(op + " " + size + " 0" + operands(kinds), false);
        }
      }
    }
  }

  private static void sizeBounds() {
    check.about("Terms, AN INSTRUCTION: a SIZE (1, 4 or 8; 0 where none is told)");
    int[] sizes = {0, 1, 2, 3, 4, 5, 6, 7, 8, 9, 10, 12, 15, 16, 32, 64, 256, 257, 260, 264, -1, -4, -8, MIN, MIN + 4, MIN + 8,
        MAX};
    for (int op = 0; op <= 53; op++) {
      for (String kinds : kindsOf(op)) {
        for (int size : sizes) tells(op + " " + size + " 0" + operands(kinds), hasSize(op, size));
      }
    }
  }

  private static void decodedSizes() {
    check.about("Terms, AN INSTRUCTION: the size 0 where none is told");
    for (String hex : new String[] {"E9 01 02 03 04", "EB 01", "FF E1", "FF 21", "E8 01 02 03 04", "FF D1", "C3", "C2 01 02",
        "0F 81 01 02 03 04", "71 01", "90", "CC", "0F 0B", "0F 05", "C9"}) {
      for (String prefix : new String[] {"", "40 ", "48 ", "4F "}) {
        InstructionCoder x = new InstructionCoder();
        x.op(8, 4, 0);
        Check.feed(x, Check.bytes(prefix + hex));
        Check.decodedCount(x);
        check.due("size of " + prefix + hex, x.field(1), 0);
      }
    }
  }

  private static void conditionBounds() {
    check.about("Terms, AN INSTRUCTION: a CONDITION (0 .. 15; 0 where none is told)");
    int[] conditions = {0, 1, 2, 3, 4, 5, 6, 7, 8, 9, 10, 11, 12, 13, 14, 15, 16, 17, 31, 32, 48, 128, 256, 257, -1, -16, MIN,
        MIN + 1, MAX};
    for (int op = 0; op <= 53; op++) {
      for (String kinds : kindsOf(op)) {
        for (int condition : conditions) {
          int last = hasCondition(op) ? 15 : 0;
          tells(op + " " + someSize(op) + " " + condition + operands(kinds), condition >= 0 && condition <= last);
        }
      }
    }
    for (int c = 0; c <= 15; c++) {
      check.due("IF " + c + " with ib", Check.encode("34 0 " + c + " n5"), String.format("%02X 05", 0x70 + c));
      check.due("IF " + c + " with id", Check.encode("34 0 " + c + " n128"), String.format("0F %02X 80 00 00 00", 0x80 + c));
      check.due("SET " + c, Check.encode("35 1 " + c + " r3"), String.format("0F %02X C3", 0x90 + c));
      check.due("CMOVE " + c, Check.encode("36 4 " + c + " r3 r1"), String.format("0F %02X D9", 0x40 + c));
    }
  }

  private static void decodedConditions() {
    check.about("Terms, AN INSTRUCTION: the condition 0 where none is told");
    for (String hex : new String[] {"09 D1", "8F C1", "90", "99", "0F AF C1", "0F CF", "5F", "BF 01 02 03 04", "A5", "F3 AB",
        "D3 FF"}) {
      InstructionCoder x = new InstructionCoder();
      x.op(36, 4, 15);
      Check.feed(x, Check.bytes(hex));
      Check.decodedCount(x);
      check.due("condition of " + hex, x.field(2), 0);
    }
    for (int c = 0; c <= 15; c++) {
      check.due("condition", Check.decode(String.format("%02X 80", 0x70 + c)), "2: 34 0 " + c + " n-128");
      check.due("condition", Check.decode(String.format("0F %02X 80 00 00 00", 0x80 + c)), "6: 34 0 " + c + " n128");
      check.due("condition", Check.decode(String.format("0F %02X C3", 0x90 + c)), "3: 35 1 " + c + " r3");
      check.due("condition", Check.decode(String.format("0F %02X D9", 0x40 + c)), "3: 36 4 " + c + " r3 r1");
    }
  }

  private static void kindsOfOperands() {
    check.about("Terms, TO ENCODE: operands of just these kinds");
    String letters = "-RMN";
    for (int op = 0; op <= 53; op++) {
      Set<String> known = new HashSet<>();
      for (String kinds : kindsOf(op)) known.add((kinds + "---").substring(0, 3));
      for (int mix = 0; mix < 64; mix++) {
        String kinds = "" + letters.charAt(mix % 4) + letters.charAt(mix / 4 % 4) + letters.charAt(mix / 16);
        for (int size : new int[] {0, 1, 2, 4, 8}) {
          tells(op + " " + size + " 0" + operands(kinds), known.contains(kinds) && hasSize(op, size));
        }
      }
    }
  }

  private static void oneMemoryAtMost() {
    check.about("Terms, AN INSTRUCTION: the MEMORY, one operand at most");
    for (int op = 0; op <= 53; op++) {
      for (String kinds : new String[] {"MM", "M-M", "-MM", "MMM", "RMM", "MMR", "MRM", "MMN"}) {
        tells(op + " " + someSize(op) + " 0" + operands(kinds), false);
      }
    }
    InstructionCoder x = new InstructionCoder();
    x.memory(1, -1, 1, 0);
    x.op(8, 4, 0);
    check.due("operand(0, 2, 0)", x.operand(0, 2, 0), true);
    check.due("operand(1, 2, 0)", x.operand(1, 2, 0), true);
    check.due("encode", Check.encoded(x), "none");
    x.operand(0, 1, 0);
    check.due("encode with one", Check.encoded(x), "8B 01");
  }

  private static void oneNumberAtMost() {
    check.about("Terms, AN INSTRUCTION: the NUMBER, one at most");
    for (int op = 0; op <= 53; op++) {
      for (String kinds : new String[] {"NN", "N-N", "-NN", "NNN", "RNN", "MNN", "NNR", "NRN"}) {
        tells(op + " " + someSize(op) + " 0" + operands(kinds), false);
      }
    }
  }

  private static void decodedRegistersOfOtherKinds() {
    check.about("Terms, AN INSTRUCTION: the register's number of NONE, MEMORY and NUMBER is 0");
    InstructionCoder x = new InstructionCoder();
    for (String hex : new String[] {"4F 69 7F 01 05 00 00 00", "4F 89 7F 01", "4F C3", "4F 6A 07", "41 FF 77 01",
        "4D 0F AF FF"}) {
      for (int k = 0; k < 3; k++) x.operand(k, 1, 15);
      Check.feed(x, Check.bytes(hex));
      Check.decodedCount(x);
      for (int k = 0; k < 3; k++) {
        if (x.field(3 + 2 * k) != 1) check.due("register of operand " + k + " of " + hex, x.field(4 + 2 * k), 0);
      }
    }
  }

  private static void memoryTells(int base, int index, int scale, int displacement, boolean due) {
    String memory = "m(" + base + "," + index + "," + scale + "," + displacement + ")";
    tells("11 4 0 r1 " + memory, due);
    tells("0 1 0 " + memory + " r1", due);
    tells("8 8 0 r1 " + memory, due);
    tells("15 4 0 " + memory, due);
    tells("31 0 0 " + memory, due);
    tells("23 8 0 r9 " + memory + " n1", due);
  }

  private static void baseBounds() {
    check.about("Terms, THE MEMORY: a BASE (a register, -1 none, 16 the next instruction's address)");
    for (int base = -1; base <= 16; base++) memoryTells(base, -1, 1, 5, true);
    for (int base = -1; base <= 15; base++) memoryTells(base, 1, 2, 5, true);
    for (int base : new int[] {-2, -3, -16, 17, 18, 24, 31, 32, 255, 256, 1 << 16, MIN, MIN + 1, MAX}) {
      memoryTells(base, -1, 1, 5, false);
      memoryTells(base, 1, 2, 5, false);
    }
  }

  private static void indexBounds() {
    check.about("Terms, THE MEMORY: an INDEX (a register but 4, or -1)");
    for (int base : new int[] {-1, 0, 4, 5, 12, 13, 15}) {
      for (int index = 0; index <= 15; index++) {
        for (int scale = 1; scale <= 8; scale *= 2) memoryTells(base, index, scale, 0, index != 4);
      }
      memoryTells(base, -1, 1, 0, true);
      for (int index : new int[] {-2, -3, -12, 16, 17, 20, 31, 256, 1 << 16, MIN, MIN + 1, MAX}) {
        memoryTells(base, index, 1, 0, false);
      }
    }
  }

  private static void scaleBounds() {
    check.about("Terms, THE MEMORY: a SCALE (1, 2, 4, 8)");
    for (int scale = -9; scale <= 17; scale++) {
      boolean due = scale == 1 || scale == 2 || scale == 4 || scale == 8;
      for (int base : new int[] {-1, 0, 5}) memoryTells(base, 1, scale, 0, due);
    }
    for (int scale : new int[] {32, 64, 255, 256, 257, 258, 260, 264, 1 << 16, MIN, MIN + 1, MIN + 2, MAX}) {
      memoryTells(0, 1, scale, 0, false);
    }
  }

  private static void scaleWithoutAnIndex() {
    check.about("Terms, THE MEMORY: the scale is 1 without an index");
    for (int base : new int[] {-1, 0, 4, 5, 12, 15, 16}) {
      memoryTells(base, -1, 1, 0, true);
      for (int scale : new int[] {0, 2, 3, 4, 8, 16, -1, MIN, MAX}) memoryTells(base, -1, scale, 0, false);
    }
  }

  private static void displacementBounds() {
    check.about("Terms, THE MEMORY: a DISPLACEMENT, an int");
    for (int displacement : new int[] {0, 1, -1, 127, 128, -128, -129, 255, 256, 65535, 65536, MIN, MAX}) {
      for (int base = -1; base <= 16; base++) {
        String fields = "11 4 0 r1 m(" + base + ",-1,1," + displacement + ")";
        check.due("encode and decode of " + fields, Check.thereAndBack(fields), fields);
      }
    }
  }

  private static void nextAddressHasNoIndex() {
    check.about("Terms, THE MEMORY: with base 16 there is no index");
    memoryTells(16, -1, 1, 5, true);
    for (int index = 0; index <= 15; index++) {
      for (int scale = 1; scale <= 8; scale *= 2) memoryTells(16, index, scale, 5, false);
    }
  }

  private static void decodedWithoutMemoryOrNumber() {
    check.about("Terms, THE MEMORY: what is decoded has -1, -1, 1 and 0 without a memory, the number 0 without a NUMBER");
    String[] rows = {"01 D1", "81 84 93 07 00 00 00 05 00 00 00", "8B C1", "90", "01 4C 93 07", "F3 A4", "C1 64 93 07 05",
        "D3 E0", "0F 94 C0", "FF 64 93 07", "53",
      "6A 05", "FF E1", "48 63 C1", "FF 25 01 00 00 00", "83 C0 05", "8D 4C 93 07", "C2 05 00", "C3", "8D 44 93 07", "D1 E0",
      "C9", "8D 4C 93 07", "EB 05", "98"};
    // The object is the same throughout, so that a memory or a number decoded before could stay.
    InstructionCoder x = new InstructionCoder();
    x.memory(3, 2, 4, 7);
    x.number(Long.MIN_VALUE);
    for (String hex : rows) {
      Check.feed(x, Check.bytes(hex));
      Check.decodedCount(x);
      boolean memory = false;
      boolean number = false;
      for (int k = 0; k < 3; k++) {
        memory |= x.field(3 + 2 * k) == 2;
        number |= x.field(3 + 2 * k) == 3;
      }
      int[] rest = {-1, -1, 1, 0};
      for (int k = 0; k < 4 && !memory; k++) check.due("field(" + (9 + k) + ") of " + hex, x.field(9 + k), rest[k]);
      if (!number) check.due("value() of " + hex, x.value(), 0L);
    }
  }
}
