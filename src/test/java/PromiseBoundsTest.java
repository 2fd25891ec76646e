/** Promises 1 to 11: every sentence that draws a bound, with a test of its own that names the promise. */
public final class PromiseBoundsTest {
  private static final int MIN = Integer.MIN_VALUE;
  private static final int MAX = Integer.MAX_VALUE;

  /** Fields that differ from a new object's, and their bytes. */
  private static final String SET = "36 8 5 r9 m(3,2,4,7)";
  private static final String SET_FIELDS = SET + " !n11";
  private static final String SET_BYTES = "4C 0F 45 4C 93 07";

  private static final Check check = new Check();

  public static void main(String[] args) {
    newObjectHasNopAlone();
    newObjectHasNoBytes();
    newObjectIsFreshWhateverOthersDid();
    opTakesAnyInts();
    opMakesEveryOperandNone();
    opChangesNothingElse();
    operandNumberBounds();
    operandKindBounds();
    operandRegisterBounds();
    operandWithoutARegisterHasTheNumberZero();
    operandChangesOnlyItsOwn();
    operandRefusedChangesNothing();
    memoryTakesAnyInts();
    memoryIsLookedAtOnlyAsAnOperand();
    numberTakesAnyLong();
    numberIsLookedAtOnlyAsAnOperand();
    encodeAnswersHowMany();
    encodeRefusedKeepsBytesAndFields();
    encodeKeepsFieldsAndFedBytes();
    octetOutsideIsMinusOne();
    octetHasNoSign();
    octetIsOfTheLatestEncode();
    feedCountBounds();
    feedTakesSixteenAtMost();
    feedTakesTheLowestBytesHighestFirst();
    feedRefusedChangesNothing();
    feedChangesNoFields();
    decodeOfNoBytes();
    decodeOfTooFewBytes();
    decodeOfMoreBytesThanTheInstruction();
    decodeLeavesNoFedBytes();
    decodeRefusedKeepsTheFields();
    decodeKeepsTheBytesOfEncode();
    fieldByEveryNumber();
    fieldOfAnotherNumberIsZero();
    valueIsTheNumberOfTheFields();
    callsUpToThe512th();
    check.end();
  }

  /** An object with fields set and encoded, and with the bytes 0F fed, which need one more. */
  private static InstructionCoder full() {
    InstructionCoder x = new InstructionCoder();
    x.number(11);
    Check.set(x, SET);
    Check.encoded(x);
    x.feed(0x0F, 1);
    return x;
  }

  /** What full() has left there: fields, bytes of encode and fed bytes are all as they were. */
  private static void isStillFull(String call, InstructionCoder x) {
    check.due("fields after " + call, Check.fields(x), SET_FIELDS);
    hasStillItsBytes(call, x);
  }

  private static void hasStillItsBytes(String call, InstructionCoder x) {
    check.due("bytes after " + call, Check.octets(x, 6) + " " + x.octet(6), SET_BYTES + " -1");
    x.feed(0x0B, 1);
    check.due("decode after " + call, Check.decoded(x), "2: 41 0 0");
  }

  private static void newObjectHasNopAlone() {
    check.about("Promise 1: op 39, no size, no operands");
    InstructionCoder x = new InstructionCoder();
    int[] want = {39, 0, 0, 0, 0, 0, 0, 0, 0, -1, -1, 1, 0};
    for (int what = 0; what < want.length; what++) check.due("field(" + what + ")", x.field(what), want[what]);
    check.due("value()", x.value(), 0L);
    check.due("encode", Check.encoded(x), "90");
  }

  private static void newObjectHasNoBytes() {
    check.about("Promise 1: no bytes");
    InstructionCoder x = new InstructionCoder();
    for (int i = -1; i <= 16; i++) check.due("octet(" + i + ")", x.octet(i), -1);
    check.due("decode", Check.decoded(x), "none");
    for (int i = 0; i < 16; i++) check.due("feed " + i, x.feed(0x90, 1), true);
  }

  private static void newObjectIsFreshWhateverOthersDid() {
    check.about("Promise 1: a new object");
    InstructionCoder other = full();
    InstructionCoder x = new InstructionCoder();
    check.due("fields", Check.fields(x), "39 0 0");
    check.due("octet(0)", x.octet(0), -1);
    check.due("decode", Check.decoded(x), "none");
    x.op(8, 1, 0);
    isStillFull("calls of another object", other);
  }

  private static void opTakesAnyInts() {
    check.about("Promise 2: the op, size and condition become these");
    InstructionCoder x = new InstructionCoder();
    int[] numbers = {0, 53, 54, -1, 1, 2, 4, 8, 15, 16, 256, MAX, MIN};
    for (int i = 0; i < numbers.length; i++) {
      int op = numbers[i];
      int size = numbers[(i + 1) % numbers.length];
      int condition = numbers[(i + 2) % numbers.length];
      x.op(op, size, condition);
      check.due("field(0)", x.field(0), op);
      check.due("field(1)", x.field(1), size);
      check.due("field(2)", x.field(2), condition);
    }
  }

  private static void opMakesEveryOperandNone() {
    check.about("Promise 2: operands become NONE");
    for (int kind = 0; kind <= 3; kind++) {
      InstructionCoder x = new InstructionCoder();
      for (int k = 0; k < 3; k++) x.operand(k, kind, kind == 1 ? 15 : 0);
      x.op(39, 0, 0);
      for (int what = 3; what <= 8; what++) check.due("field(" + what + ")", x.field(what), 0);
      check.due("encode", Check.encoded(x), "90");
    }
  }

  private static void opChangesNothingElse() {
    check.about("Promise 2: op changes op, size, condition and operands alone");
    InstructionCoder x = full();
    x.op(39, 0, 0);
    check.due("fields", Check.fields(x), "39 0 0 !m(3,2,4,7) !n11");
    hasStillItsBytes("op", x);
  }

  private static void operandNumberBounds() {
    check.about("Promise 3: operand k (0 .. 2)");
    for (int k = 0; k <= 2; k++) {
      InstructionCoder x = new InstructionCoder();
      check.due("operand(" + k + ", 1, 15)", x.operand(k, 1, 15), true);
      check.due("kind", x.field(3 + 2 * k), 1);
      check.due("register", x.field(4 + 2 * k), 15);
    }
    // 2 k, 4 k and k taken as a byte wrap around to operands that are there.
    for (int k : new int[] {-1, -2, -3, 3, 4, 5, 6, 256, 258, 1 << 16, 1 << 30, MIN, MIN + 1, MIN + 2, MAX, MAX - 1}) {
      for (int kind = 0; kind <= 3; kind++) refuses(k, kind, 0);
    }
  }

  private static void operandKindBounds() {
    check.about("Promise 3: of a kind (0 .. 3)");
    for (int k = 0; k <= 2; k++) {
      for (int kind = 0; kind <= 3; kind++) {
        InstructionCoder x = new InstructionCoder();
        x.operand(k, 3 - kind, 0);
        check.due("operand(" + k + ", " + kind + ", 0)", x.operand(k, kind, 0), true);
        check.due("kind", x.field(3 + 2 * k), kind);
      }
      for (int kind : new int[] {-1, -2, -3, 4, 5, 6, 7, 16, 256, 257, 258, 1 << 16, MIN, MIN + 1, MAX}) refuses(k, kind, 0);
    }
  }

  private static void operandRegisterBounds() {
    check.about("Promise 3: with a register's number (0 .. 15)");
    for (int k = 0; k <= 2; k++) {
      for (int register = 0; register <= 15; register++) {
        InstructionCoder x = new InstructionCoder();
        check.due("operand(" + k + ", 1, " + register + ")", x.operand(k, 1, register), true);
        check.due("register", x.field(4 + 2 * k), register);
      }
      for (int register : new int[] {-1, -16, 16, 17, 31, 32, 256, 1 << 16, MIN, MIN + 1, MAX}) refuses(k, 1, register);
    }
  }

  private static void operandWithoutARegisterHasTheNumberZero() {
    check.about("Promise 3: the register's number is 0 if it is none");
    for (int k = 0; k <= 2; k++) {
      for (int kind : new int[] {0, 2, 3}) {
        InstructionCoder x = new InstructionCoder();
        x.operand(k, 1, 9);
        check.due("operand(" + k + ", " + kind + ", 0)", x.operand(k, kind, 0), true);
        check.due("register", x.field(4 + 2 * k), 0);
        for (int register : new int[] {1, 4, 15, 16, -1, 256, MIN, MAX}) refuses(k, kind, register);
      }
    }
  }

  private static void operandChangesOnlyItsOwn() {
    check.about("Promise 3: operand k becomes");
    InstructionCoder x = full();
    check.due("operand(2, 3, 0)", x.operand(2, 3, 0), true);
    check.due("fields", Check.fields(x), SET + " n11");
    check.due("operand(0, 0, 0)", x.operand(0, 0, 0), true);
    check.due("fields", Check.fields(x), "36 8 5 - m(3,2,4,7) n11");
    check.due("operand(1, 1, 14)", x.operand(1, 1, 14), true);
    check.due("fields", Check.fields(x), "36 8 5 - r14 n11 !m(3,2,4,7)");
    hasStillItsBytes("operand", x);
  }

  private static void operandRefusedChangesNothing() {
    check.about("Promise 3: else false, changing nothing");
    int[][] wrong = {{3, 1, 0}, {-1, 0, 0}, {0, 4, 0}, {0, -1, 0}, {0, 1, 16}, {0, 1, -1}, {1, 0, 1}, {1, 2, 1}, {1, 3, 1},
        {2, 5, 0}};
    for (int[] w : wrong) {
      InstructionCoder x = full();
      check.due("operand(" + w[0] + ", " + w[1] + ", " + w[2] + ")", x.operand(w[0], w[1], w[2]), false);
      isStillFull("it", x);
    }
  }

  private static void refuses(int k, int kind, int register) {
    InstructionCoder x = new InstructionCoder();
    Check.set(x, SET);
    check.due("operand(" + k + ", " + kind + ", " + register + ")", x.operand(k, kind, register), false);
    check.due("fields after it", Check.fields(x), SET);
  }

  private static void memoryTakesAnyInts() {
    check.about("Promise 4: the memory's fields become these");
    int[] numbers = {0, -1, 16, 17, 1, 2, 3, 4, 8, 127, 128, -128, -129, MAX, MIN};
    InstructionCoder x = full();
    for (int i = 0; i < numbers.length; i++) {
      int[] m = new int[4];
      for (int k = 0; k < 4; k++) m[k] = numbers[(i + k) % numbers.length];
      x.memory(m[0], m[1], m[2], m[3]);
      for (int k = 0; k < 4; k++) check.due("field(" + (9 + k) + ")", x.field(9 + k), m[k]);
    }
    check.due("fields", Check.fields(x), "36 8 5 r9 m(-2147483648,0,-1,16) !n11");
    hasStillItsBytes("memory", x);
  }

  private static void memoryIsLookedAtOnlyAsAnOperand() {
    check.about("Promise 4: encode looks at them, if there is such an operand");
    InstructionCoder x = new InstructionCoder();
    x.memory(17, 4, 3, 1);
    check.due("encode without it", Check.encoded(x), "90");
    x.op(0, 4, 0);
    x.operand(0, 1, 1);
    x.operand(1, 1, 2);
    check.due("encode without it", Check.encoded(x), "01 D1");
    x.operand(0, 2, 0);
    check.due("encode with it", Check.encoded(x), "none");
    x.memory(7, 9, 2, -128);
    check.due("encode with another", Check.encoded(x), "42 01 54 4F 80");
    x.memory(15, 15, 8, 128);
    x.operand(0, 1, 1);
    check.due("encode without it again", Check.encoded(x), "01 D1");
  }

  private static void numberTakesAnyLong() {
    check.about("Promise 5: the number becomes this");
    for (long v : new long[] {0, 1, -1, 255, 256, MIN, MAX, 1L << 31, 0xFFFFFFFFL, 1L << 32, Long.MAX_VALUE, Long.MIN_VALUE}) {
      InstructionCoder x = full();
      x.number(v);
      check.due("value()", x.value(), v);
      check.due("fields", Check.fields(x), v == 0 ? SET : SET + " !n" + v);
      hasStillItsBytes("number(" + v + ")", x);
    }
  }

  private static void numberIsLookedAtOnlyAsAnOperand() {
    check.about("Promise 5: encode looks at it, if there is such an operand");
    InstructionCoder x = new InstructionCoder();
    x.number(Long.MIN_VALUE);
    check.due("encode without it", Check.encoded(x), "90");
    x.op(23, 4, 0);
    x.operand(0, 1, 1);
    x.operand(1, 1, 2);
    check.due("encode without it", Check.encoded(x), "0F AF CA");
    x.operand(2, 3, 0);
    check.due("encode with it", Check.encoded(x), "none");
    x.number(-128);
    check.due("encode with another", Check.encoded(x), "6B CA 80");
    x.number(1);
    Check.set(x, "26 4 0 r3 r1");
    check.due("encode without it again", Check.encoded(x), "D3 E3");
  }

  private static void encodeAnswersHowMany() {
    check.about("Promise 6: how many, 1 .. 15");
    String[] byLength = {
      "39 0 0", "0 4 0 r1 r2", "0 4 0 r1 n1", "0 8 0 r1 n1", "0 4 0 r0 n128", "0 4 0 r1 n128", "0 8 0 r1 n128",
      "0 8 0 m(1,-1,1,1) n128",
      "0 8 0 m(4,-1,1,1) n128", "8 8 0 r1 n2147483648", "0 8 0 m(1,-1,1,128) n128", "0 8 0 m(4,-1,1,128) n128",
    };
    for (int i = 0; i < byLength.length; i++) {
      InstructionCoder x = new InstructionCoder();
      Check.set(x, byLength[i]);
      check.due("encode of " + byLength[i], Check.encodedCount(x), i + 1);
      check.due("its last byte is there", x.octet(i) >= 0, true);
      check.due("the next byte is not", x.octet(i + 1), -1);
    }
  }

  private static void encodeRefusedKeepsBytesAndFields() {
    check.about("Promise 6: IllegalArgumentException: there are none such; bytes and fields stay");
    String[] wrong = {"54 0 0", "-1 0 0", "0 2 0 r1 r2", "0 4 1 r1 r2", "0 4 0 r1", "0 4 0 r1 n2147483648",
        "11 4 0 r1 m(3,4,1,0)", "8 4 0 m(1,-1,1,0) m(1,-1,1,0)"};
    for (String fields : wrong) {
      InstructionCoder x = full();
      Check.set(x, fields);
      String before = Check.fields(x);
      check.due("encode of " + fields, Check.encoded(x), "none");
      check.due("fields after it", Check.fields(x), before);
      check.due("encode again", Check.encoded(x), "none");
      hasStillItsBytes("it", x);
    }
    InstructionCoder x = new InstructionCoder();
    x.op(54, 0, 0);
    check.due("a first encode", Check.encoded(x), "none");
    check.due("octet(0) after it", x.octet(0), -1);
  }

  private static void encodeKeepsFieldsAndFedBytes() {
    check.about("Promise 6: the bytes of the fields");
    InstructionCoder x = full();
    check.due("encode again", Check.encoded(x), SET_BYTES);
    isStillFull("encode", x);
  }

  private static void octetOutsideIsMinusOne() {
    check.about("Promise 7: -1 if there is none");
    InstructionCoder x = full();
    check.due("octet(0)", x.octet(0), 0x4C);
    check.due("octet(5)", x.octet(5), 7);
    for (int i : new int[] {-1, -2, 6, 7, 14, 15, 16, 17, 256, 1 << 30, MAX, MAX - 1, MIN, MIN + 1}) {
      check.due("octet(" + i + ")", x.octet(i), -1);
    }
    isStillFull("octet", x);
  }

  private static void octetHasNoSign() {
    check.about("Promise 7: byte i of the bytes");
    InstructionCoder x = new InstructionCoder();
    Check.set(x, "8 8 0 r15 n" + 0xFF80_7F00_FE81_01C8L);
    check.due("encode", Check.encodedCount(x), 10);
    int[] want = {0x49, 0xBF, 0xC8, 0x01, 0x81, 0xFE, 0x00, 0x7F, 0x80, 0xFF, -1};
    for (int i = 0; i < want.length; i++) check.due("octet(" + i + ")", x.octet(i), want[i]);
  }

  private static void octetIsOfTheLatestEncode() {
    check.about("Promise 7: of the bytes of the latest encode");
    InstructionCoder x = full();
    x.op(33, 0, 0);
    check.due("octet(0) before the next encode", x.octet(0), 0x4C);
    check.due("a shorter encode", Check.encodedCount(x), 1);
    check.due("octet(0)", x.octet(0), 0xC3);
    for (int i = 1; i <= 16; i++) check.due("octet(" + i + ")", x.octet(i), -1);
    x.op(41, 0, 0);
    check.due("a longer encode", Check.encodedCount(x), 2);
    check.due("octet(1)", x.octet(1), 0x0B);
    check.due("octet(2)", x.octet(2), -1);
  }

  private static void feedCountBounds() {
    check.about("Promise 8: false if n is not 1 .. 8");
    for (int n = 1; n <= 8; n++) check.due("feed(0, " + n + ")", new InstructionCoder().feed(0, n), true);
    for (int n : new int[] {0, -1, -8, 9, 10, 16, 17, 256, 257, 1 << 30, MIN, MIN + 1, MIN + 8, MAX, MAX - 7}) {
      InstructionCoder x = new InstructionCoder();
      check.due("feed(0x90, " + n + ")", x.feed(0x9090909090909090L, n), false);
      check.due("decode after it", Check.decoded(x), "none");
    }
  }

  private static void feedTakesSixteenAtMost() {
    check.about("Promise 8: 16 at most; false if there would be more");
    for (int before = 0; before <= 16; before++) {
      for (int n = 1; n <= 8; n++) {
        InstructionCoder x = new InstructionCoder();
        for (int i = 0; i < before; i++) x.feed(0x90, 1);
        check.due("feed of " + n + " behind " + before, x.feed(0x9090909090909090L, n), before + n <= 16);
        int count = before + n <= 16 ? before + n : before;
        for (int i = count; i < 16; i++) check.due("feed of one behind " + i, x.feed(0x90, 1), true);
        check.due("feed of one behind 16", x.feed(0x90, 1), false);
        check.due("decode", Check.decoded(x), "1: 39 0 0");
        check.due("feed of 8 after decode", x.feed(0, 8), true);
        check.due("feed of 8 more", x.feed(0, 8), true);
        check.due("feed of one more", x.feed(0, 1), false);
      }
    }
  }

  private static void feedTakesTheLowestBytesHighestFirst() {
    check.about("Promise 8: the n lowest bytes of word, the highest of them first");
    long word = 0xF8_E7_D6_C5_B4_A3_92_81L;
    for (int n = 1; n <= 8; n++) {
      InstructionCoder x = new InstructionCoder();
      x.feed(0x48B8, 2);
      x.feed(word, n);
      x.feed(0, 8 - n);
      // io has the lowest byte first: what was fed first is its lowest.
      long told = n == 8 ? Long.reverseBytes(word) : Long.reverseBytes(word << 8 * (8 - n));
      check.due("decode of " + n + " bytes", Check.decoded(x), "10: 8 8 0 r0 n" + told);
    }
    InstructionCoder x = new InstructionCoder();
    x.feed(0x4881, 2);
    x.feed(0xC3, 1);
    x.feed(-1L, 1);
    x.feed(0x7F00FFL, 3);
    check.due("appended one behind another", Check.decoded(x), "7: 0 8 0 r3 n-16744449");
  }

  private static void feedRefusedChangesNothing() {
    check.about("Promise 8: a refused feed appends nothing");
    for (int n : new int[] {0, -1, 9, MIN, MAX}) {
      InstructionCoder x = full();
      check.due("feed(-1, " + n + ")", x.feed(-1, n), false);
      isStillFull("it", x);
    }
    InstructionCoder x = new InstructionCoder();
    x.feed(0x48818424_80000000L, 8);
    x.feed(0x1122, 2);
    check.due("feed of 7 behind 10", x.feed(-1, 7), false);
    check.due("feed of 2 behind 10", x.feed(0x3344, 2), true);
    check.due("decode", Check.decoded(x), "12: 0 8 0 m(4,-1,1,128) n" + 0x44332211);
  }

  private static void feedChangesNoFields() {
    check.about("Promise 8: feed appends to the bytes that are to be decoded");
    InstructionCoder x = full();
    check.due("feed", x.feed(0x0B90, 2), true);
    check.due("fields", Check.fields(x), SET_FIELDS);
    check.due("bytes", Check.octets(x, 6), SET_BYTES);
    check.due("decode", Check.decoded(x), "2: 41 0 0");
  }

  private static void decodeOfNoBytes() {
    check.about("Promise 9: too few: none at all");
    InstructionCoder x = new InstructionCoder();
    x.number(11);
    Check.set(x, SET);
    check.due("decode", Check.decoded(x), "none");
    check.due("fields", Check.fields(x), SET_FIELDS);
  }

  private static void decodeOfTooFewBytes() {
    check.about("Promise 9: or are too few; the fields stay");
    String[] whole = {
      "F3 48 A5", "0F 0B", "48 0F AF C1", "4F 8D 84 88 01 02 03 04", "8D 44 24 01", "41 8D 05 01 02 03 04",
      "8D 04 25 01 02 03 04",
      "48 81 84 88 01 02 03 04 05 06 07 08", "48 B8 01 02 03 04 05 06 07 08", "B8 01 02 03 04", "40 B4 01", "C2 01 02",
      "68 01 02 03 04",
      "6A 01", "69 C0 01 02 03 04", "6B 45 01 02", "E8 01 02 03 04", "E9 01 02 03 04", "EB 01", "70 01", "0F 80 01 02 03 04",
      "0F 90 45 01",
      "0F BA E0 01", "C1 E0 01", "D1 24 24", "05 01 02 03 04", "04 01", "80 C0 01", "83 C0 01", "F6 00 01",
      "F7 45 01 02 03 04 05", "49 63 45 01",
      "0F CB", "40 0F C0 64 24 01", "FF 35 01 02 03 04", "8F 45 01", "C7 84 24 01 02 03 04 05 06 07 08", "A9 01 02 03 04",
      "41 53", "48 99",
    };
    for (String hex : whole) {
      int[] row = Check.bytes(hex);
      check.due("decode of " + hex, Check.decode(row).startsWith(row.length + ": "), true);
      for (int count = 0; count < row.length; count++) isRefused(Check.hex(row, count));
    }
  }

  private static void isRefused(String hex) {
    InstructionCoder x = new InstructionCoder();
    x.number(11);
    Check.set(x, SET);
    Check.encoded(x);
    Check.feed(x, Check.bytes(hex));
    check.due("decode of '" + hex + "'", Check.decoded(x), "none");
    check.due("fields after '" + hex + "'", Check.fields(x), SET_FIELDS);
    check.due("bytes after '" + hex + "'", Check.octets(x, 6) + " " + x.octet(6), SET_BYTES + " -1");
    x.feed(0x0F05, 2);
    check.due("decode after '" + hex + "'", Check.decoded(x), "2: 42 0 0");
  }

  private static void decodeOfMoreBytesThanTheInstruction() {
    check.about("Promise 9: the bytes begin with an instruction: how many bytes it has");
    String[] whole = {"90", "0F 0B", "4D 8D 3F", "48 83 C0 7F", "05 FF FF FF FF", "0F 8F FF FF FF FF",
        "48 B8 FF FF FF FF FF FF FF FF", "49 81 84 FF FF FF FF FF FF FF FF FF"};
    for (String hex : whole) {
      String alone = Check.decode(hex);
      int length = Check.bytes(hex).length;
      check.due("length of " + hex, alone.startsWith(length + ": "), true);
      StringBuilder more = new StringBuilder(hex);
      for (int count = length + 1; count <= 16; count++) {
        more.append(count % 2 == 0 ? " 06" : " C3");
        check.due("decode of " + more, Check.decode(more.toString()), alone);
      }
    }
  }

  private static void decodeLeavesNoFedBytes() {
    check.about("Promise 9: the bytes that were fed are none then, in any case");
    for (String hex : new String[] {"90", "90 0F", "90 90", "06", "06 90", "0F", "48 81", "F3 90 90",
        "00 00 00 00 00 00 00 00 00 00 00 00 00 00 00 00"}) {
      InstructionCoder x = new InstructionCoder();
      Check.feed(x, Check.bytes(hex));
      Check.decoded(x);
      check.due("decode again behind " + hex, Check.decoded(x), "none");
      check.due("feed of 8", x.feed(0x0B90909090909090L, 8), true);
      check.due("feed of 8 more", x.feed(0x9090909090909090L, 8), true);
      Check.decodedCount(x);
      x.feed(0x0B, 1);
      check.due("decode of 0B behind " + hex, Check.decoded(x), "none");
    }
  }

  private static void decodeRefusedKeepsTheFields() {
    check.about("Promise 9: they begin with none; the fields stay");
    // Those at the end fail late, when much of the instruction has been read.
    for (String hex : new String[] {"06", "66 90", "F3 90", "48 48 90", "0F FF", "63 C1", "8D C0", "FF FF", "88 E0", "8A 64 24",
        "48 8D C1 01", "0F BA C0 01", "80 C4 01", "B7 01", "0F B6 C7"}) isRefused(hex);
  }

  private static void decodeKeepsTheBytesOfEncode() {
    check.about("Promise 9: the fields become its");
    InstructionCoder x = full();
    x.feed(0x0B, 1);
    check.due("decode", Check.decoded(x), "2: 41 0 0");
    check.due("bytes of encode", Check.octets(x, 6) + " " + x.octet(6), SET_BYTES + " -1");
    x.feed(0x4D8D7CFF80L, 5);
    check.due("decode", Check.decoded(x), "5: 11 8 0 r15 m(15,7,8,-128)");
    x.feed(0xC1E0FF, 3);
    check.due("decode", Check.decoded(x), "3: 26 4 0 r0 n255");
    check.due("encode", Check.encoded(x), "C1 E0 FF");
  }

  private static void fieldByEveryNumber() {
    check.about("Promise 10: what 0 op, 1 size, 2 condition, 3 + 2 k kind, 4 + 2 k register, 9 .. 12 the memory");
    InstructionCoder x = new InstructionCoder();
    x.op(101, 102, 103);
    x.operand(0, 1, 5);
    x.operand(1, 3, 0);
    x.operand(2, 1, 7);
    x.memory(109, 110, 111, 112);
    int[] want = {101, 102, 103, 1, 5, 3, 0, 1, 7, 109, 110, 111, 112};
    for (int what = 0; what < want.length; what++) check.due("field(" + what + ")", x.field(what), want[what]);
    x.operand(0, 2, 0);
    x.operand(1, 1, 6);
    check.due("field(3)", x.field(3), 2);
    check.due("field(4)", x.field(4), 0);
    check.due("field(5)", x.field(5), 1);
    check.due("field(6)", x.field(6), 6);
  }

  private static void fieldOfAnotherNumberIsZero() {
    check.about("Promise 10: 0 for another what");
    InstructionCoder x = full();
    for (int what : new int[] {-1, -2, -3, 13, 14, 15, 16, 100, 256, 257, 265, 1 << 16, 1 << 30, MAX, MAX - 1, MIN, MIN + 1,
        MIN + 9}) {
      check.due("field(" + what + ")", x.field(what), 0);
    }
    isStillFull("field", x);
  }

  private static void valueIsTheNumberOfTheFields() {
    check.about("Promise 11: the number of the fields");
    InstructionCoder x = full();
    check.due("value() without a NUMBER", x.value(), 11L);
    isStillFull("value", x);
    check.due("value() after a decode without a NUMBER", x.value(), 0L);
    x.feed(0x48B8FF, 3);
    x.feed(0xFFFFFFFFFFFF80L, 7);
    Check.decodedCount(x);
    check.due("value() of io", x.value(), 0x80FFFFFFFFFFFFFFL);
    x.feed(0x06, 1);
    check.due("decode", Check.decoded(x), "none");
    check.due("value() after a refused decode", x.value(), 0x80FFFFFFFFFFFFFFL);
  }

  private static void callsUpToThe512th() {
    check.about("What it is: an object is used for at most 512 calls");
    InstructionCoder x = new InstructionCoder();
    for (int call = 1; call <= 512; call += 4) {
      int number = call % 128;
      check.due("call " + call + ", feed", x.feed(0x6A00 + number, 2), true);
      check.due("call " + (call + 1) + ", decode", Check.decodedCount(x), 2);
      check.due("call " + (call + 2) + ", value", x.value(), (long) number);
      check.due("call " + (call + 3) + ", encode", Check.encodedCount(x), 2);
    }
    InstructionCoder y = new InstructionCoder();
    y.op(54, 0, 0);
    for (int call = 2; call <= 511; call++) check.due("call " + call + ", encode", Check.encoded(y), "none");
    check.due("the 512th call", y.field(0), 54);
  }
}
