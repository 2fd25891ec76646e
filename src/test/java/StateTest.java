/** Promises 1 to 5, 7, 10 and 11: what calls leave in the fields and the bytes. */
public final class StateTest {
  private static final Check check = new Check();

  public static void main(String[] args) {
    newObject();
    opSetsItsFieldsAndClearsOperands();
    opTakesAnyNumbers();
    operandTakesWhatItMay();
    operandRefusesTheRest();
    memoryTakesAnything();
    memoryAndNumberStayWithoutAnOperand();
    octetOutside();
    octetsOfTheLatestEncode();
    fieldOutside();
    everyFieldByItsNumber();
    objectsAreApart();
    check.end();
  }

  private static void newObject() {
    InstructionCoder x = new InstructionCoder();
    check.due("fields of a new object", Check.fields(x), "39 0 0");
    check.due("octet(0) of a new object", x.octet(0), -1);
    check.due("decode of a new object", Check.decoded(x), "none");
    check.due("encode of a new object", Check.encoded(x), "90");
  }

  private static void opSetsItsFieldsAndClearsOperands() {
    InstructionCoder x = new InstructionCoder();
    Check.set(x, "23 8 0 r9 m(3,2,4,7) n11");
    check.due("fields", Check.fields(x), "23 8 0 r9 m(3,2,4,7) n11");
    x.op(36, 4, 15);
    check.due("op(36, 4, 15) leaves", Check.fields(x), "36 4 15 !m(3,2,4,7) !n11");
    for (int what = 3; what <= 8; what++) check.due("field(" + what + ") after op", x.field(what), 0);
  }

  private static void opTakesAnyNumbers() {
    InstructionCoder x = new InstructionCoder();
    x.op(Integer.MIN_VALUE, -7, Integer.MAX_VALUE);
    check.due("field(0)", x.field(0), Integer.MIN_VALUE);
    check.due("field(1)", x.field(1), -7);
    check.due("field(2)", x.field(2), Integer.MAX_VALUE);
    check.due("encode of these", Check.encoded(x), "none");
  }

  private static void operandTakesWhatItMay() {
    for (int k = 0; k < 3; k++) {
      InstructionCoder x = new InstructionCoder();
      for (int register = 0; register < 16; register++) {
        check.due("operand(" + k + ", 1, " + register + ")", x.operand(k, 1, register), true);
        check.due("kind", x.field(3 + 2 * k), 1);
        check.due("register", x.field(4 + 2 * k), register);
      }
      for (int kind : new int[] {2, 3, 0}) {
        x.operand(k, 1, 9);
        check.due("operand(" + k + ", " + kind + ", 0)", x.operand(k, kind, 0), true);
        check.due("kind", x.field(3 + 2 * k), kind);
        check.due("register", x.field(4 + 2 * k), 0);
      }
    }
    InstructionCoder x = new InstructionCoder();
    check.due("a first memory", x.operand(0, 2, 0), true);
    check.due("a second memory", x.operand(1, 2, 0), true);
    check.due("a third memory", x.operand(2, 2, 0), true);
  }

  private static void operandRefusesTheRest() {
    int[][] wrong = {
      {3, 0, 0}, {3, 1, 1}, {-1, 0, 0}, {Integer.MAX_VALUE, 1, 0}, {Integer.MIN_VALUE, 1, 0},
      {0, 4, 0}, {0, -1, 0}, {0, Integer.MAX_VALUE, 0}, {0, Integer.MIN_VALUE, 0},
      {0, 1, 16}, {0, 1, -1}, {0, 1, Integer.MAX_VALUE}, {0, 1, Integer.MIN_VALUE},
      {0, 0, 1}, {1, 2, 1}, {2, 3, 1}, {0, 0, -1}, {1, 2, -1}, {2, 3, 15},
    };
    for (int[] w : wrong) {
      InstructionCoder x = new InstructionCoder();
      Check.set(x, "23 8 0 r9 m(3,2,4,7) n11");
      check.due("operand(" + w[0] + ", " + w[1] + ", " + w[2] + ")", x.operand(w[0], w[1], w[2]), false);
      check.due("fields after it", Check.fields(x), "23 8 0 r9 m(3,2,4,7) n11");
    }
  }

  private static void memoryTakesAnything() {
    InstructionCoder x = new InstructionCoder();
    x.memory(99, -99, 3, Integer.MIN_VALUE);
    check.due("field(9)", x.field(9), 99);
    check.due("field(10)", x.field(10), -99);
    check.due("field(11)", x.field(11), 3);
    check.due("field(12)", x.field(12), Integer.MIN_VALUE);
    check.due("field(3)", x.field(3), 0);
    check.due("encode without a memory operand", Check.encoded(x), "90");
  }

  private static void memoryAndNumberStayWithoutAnOperand() {
    InstructionCoder x = new InstructionCoder();
    x.number(Long.MIN_VALUE);
    check.due("value()", x.value(), Long.MIN_VALUE);
    check.due("encode without a NUMBER", Check.encoded(x), "90");
    x.memory(3, 1, 2, 9);
    x.number(Long.MAX_VALUE);
    Check.set(x, "0 4 0 r1 r2");
    check.due("encode", Check.encoded(x), "01 D1");
    check.due("fields", Check.fields(x), "0 4 0 r1 r2 !m(3,1,2,9) !n9223372036854775807");
    x.op(0, 4, 0);
    x.operand(0, 2, 0);
    x.operand(1, 1, 7);
    check.due("encode with the memory told before", Check.encoded(x), "01 7C 4B 09");
  }

  private static void octetOutside() {
    InstructionCoder x = new InstructionCoder();
    Check.set(x, "8 8 0 r0 n72623859790382856");
    check.due("encode", Check.encoded(x), "48 B8 08 07 06 05 04 03 02 01");
    for (int i : new int[] {-1, 10, 15, 16, 17, Integer.MAX_VALUE, Integer.MIN_VALUE}) {
      check.due("octet(" + i + ")", x.octet(i), -1);
    }
  }

  private static void octetsOfTheLatestEncode() {
    InstructionCoder x = new InstructionCoder();
    Check.set(x, "8 8 0 r0 n255");
    check.due("a long encode", Check.encoded(x), "48 C7 C0 FF 00 00 00");
    Check.set(x, "33 0 0");
    check.due("octet(0) before the next encode", x.octet(0), 0x48);
    check.due("a short encode", Check.encoded(x), "C3");
    check.due("octet(1) behind it", x.octet(1), -1);
    x.op(54, 0, 0);
    check.due("an encode of none", Check.encoded(x), "none");
    check.due("octet(0) after it", x.octet(0), 0xC3);
    check.due("octet(1) after it", x.octet(1), -1);
    check.due("op after it", x.field(0), 54);
    x.feed(0x4889D8L, 3);
    check.due("decode", Check.decoded(x), "3: 8 8 0 r0 r3");
    check.due("octet(0) after decode", x.octet(0), 0xC3);
  }

  private static void fieldOutside() {
    InstructionCoder x = new InstructionCoder();
    Check.set(x, "23 8 0 r9 m(3,2,4,7) n11");
    for (int what : new int[] {-1, 13, 14, 100, Integer.MAX_VALUE, Integer.MIN_VALUE}) {
      check.due("field(" + what + ")", x.field(what), 0);
    }
  }

  private static void everyFieldByItsNumber() {
    InstructionCoder x = new InstructionCoder();
    x.op(101, 102, 103);
    x.operand(0, 1, 5);
    x.operand(1, 1, 6);
    x.operand(2, 1, 7);
    x.memory(109, 110, 111, 112);
    x.number(113);
    int[] want = {101, 102, 103, 1, 5, 1, 6, 1, 7, 109, 110, 111, 112, 0};
    for (int what = 0; what < want.length; what++) check.due("field(" + what + ")", x.field(what), want[what]);
    check.due("value()", x.value(), 113L);
  }

  private static void objectsAreApart() {
    InstructionCoder x = new InstructionCoder();
    InstructionCoder y = new InstructionCoder();
    Check.set(x, "0 4 0 r1 r2");
    Check.encoded(x);
    x.feed(0x90, 1);
    check.due("fields of another object", Check.fields(y), "39 0 0");
    check.due("octet(0) of another object", y.octet(0), -1);
    check.due("decode of another object", Check.decoded(y), "none");
  }
}
