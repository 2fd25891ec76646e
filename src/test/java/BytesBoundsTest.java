/** Terms: BYTES, FORM and what the table's letters mean, as decode reads them: a test for each bound. */
public final class BytesBoundsTest {
  private static final int W = 8;
  private static final int R = 4;
  private static final int X = 2;
  private static final int B = 1;

  private static final Check check = new Check();

  public static void main(String[] args) {
    repeatMarkForItsOpsAlone();
    prefixBounds();
    opcodeOfOneByteOrTwo();
    lowestByteFirst();
    signsOfNumbers();
    registerR();
    digitMakesRCountForNothing();
    modThreeIsARegister();
    lowFourHasAnIndexByte();
    scaleIsAPowerOfTwo();
    indexWithX();
    indexFourIsNone();
    baseOfTheIndexByte();
    indexByteWithoutABase();
    lowFiveIsTheNextAddress();
    lowIsTheBase();
    displacementOfFour();
    displacementOfOne();
    displacementOfNone();
    plusRegister();
    sizeV();
    sizeOneOrV();
    sizeEightWhateverW();
    noSizeWhateverW();
    memoryAlone();
    registerAIsToldByNoByte();
    registerCIsToldByNoByte();
    check.end();
  }

  private static String hex(int... row) {
    return Check.hex(row, row.length);
  }

  private static void decodes(String hex, String fields) {
    check.due("decode of " + hex, Check.decode(hex), Check.bytes(hex).length + ": " + fields);
  }

  private static void isNone(String hex) {
    check.due("decode of " + hex, Check.decode(hex), "none");
  }

  /** ADDRESS with a PREFIX of these bits, a FORM's mod and low, and what follows; its memory is due. */
  private static void address(int bits, int mod, int low, String rest, String memory) {
    decodes(hex(0x40 + bits, 0x8D, 64 * mod + low) + rest,
        "11 " + ((bits & W) != 0 ? 8 : 4) + " 0 r" + ((bits & R) != 0 ? 8 : 0) + " m(" + memory + ")");
  }

  /** A displacement's bytes with this mod (and what it is), when the FORM needs none with mod 0. */
  private static String displacement(int mod) {
    return mod == 0 ? "" : mod == 1 ? " 80" : " 80 00 00 00";
  }

  private static int displaced(int mod) {
    return mod == 0 ? 0 : mod == 1 ? -128 : 128;
  }

  private static void repeatMarkForItsOpsAlone() {
    check.about("Terms, BYTES: F3 (for the ops marked so alone)");
    decodes("F3 A4", "52 1 0");
    decodes("F3 A5", "52 4 0");
    decodes("F3 AA", "53 1 0");
    decodes("F3 AB", "53 4 0");
    decodes("A4", "50 1 0");
    decodes("AB", "51 4 0");
    for (int opcode = 0; opcode < 256; opcode++) {
      boolean prefix = opcode >= 0x40 && opcode <= 0x4F;
      if (prefix || opcode == 0xA4 || opcode == 0xA5 || opcode == 0xAA || opcode == 0xAB) continue;
      for (int form = 0; form < 256; form++) isNone(hex(0xF3, opcode, form, 0x24, 1, 2, 3, 4, 5, 6, 7, 8));
      isNone(hex(0xF3, 0x48, opcode, 0xC0, 1, 2, 3, 4, 5, 6, 7, 8));
    }
    for (int second = 0; second < 256; second++) {
      isNone(hex(0xF3, 0x0F, second, 0xC0, 1, 2, 3, 4));
      isNone(hex(0xF3, 0x0F, second, 0xE0, 1, 2, 3, 4));
    }
  }

  private static void prefixBounds() {
    check.about("Terms, BYTES: a PREFIX 40 + 8 W + 4 R + 2 X + B");
    for (int bits = 0; bits < 16; bits++) {
      int high = (bits & R) != 0 ? 8 : 0;
      int size = (bits & W) != 0 ? 8 : 4;
      int base = (bits & B) != 0 ? 9 : 1;
      int index = (bits & X) != 0 ? 10 : 2;
      decodes(hex(0x40 + bits, 0x8B, 0x1C, 0x51), "8 " + size + " 0 r" + (high + 3) + " m(" + base + "," + index + ",2,0)");
    }
    // The neighbours of 40 .. 4F are no PREFIX.
    isNone("3F 90");
    check.due("decode of 50 90", Check.decode("50 90"), "1: 29 8 0 r0");
  }

  private static void opcodeOfOneByteOrTwo() {
    check.about("Terms, BYTES: the OPCODE (one byte or two)");
    decodes("0F AF C1", "23 4 0 r0 r1");
    isNone("AF C1");
    decodes("0F A3 C1", "47 4 0 r1 r0");
    isNone("A3 C1 00 00 00 00 00 00 00");
    decodes("0F BE C1", "13 4 0 r0 r1");
    decodes("BE C1 00 00 00", "8 4 0 r6 n193");
    isNone("0F 89");
    decodes("89 C1", "8 4 0 r1 r0");
    isNone("0F");
    isNone("0F 0F C1");
    isNone("48 0F 48 AF C1");
  }

  private static void lowestByteFirst() {
    check.about("Terms, BYTES: displacements and numbers have the lowest byte first");
    decodes("C2 01 02", "33 0 0 n513");
    decodes("68 01 02 03 04", "29 8 0 n67305985");
    decodes("48 B8 01 02 03 04 05 06 07 08", "8 8 0 r0 n578437695752307201");
    decodes("8D 83 01 02 03 04", "11 4 0 r0 m(3,-1,1,67305985)");
    decodes("81 83 01 02 03 04 05 06 07 08", "0 4 0 m(3,-1,1,67305985) n134678021");
    check.due("encode", Check.encode("33 0 0 n513"), "C2 01 02");
    check.due("encode", Check.encode("29 8 0 n67305985"), "68 01 02 03 04");
    check.due("encode", Check.encode("8 8 0 r0 n578437695752307201"), "48 B8 01 02 03 04 05 06 07 08");
    check.due("encode", Check.encode("0 4 0 m(3,-1,1,67305985) n134678021"), "81 83 01 02 03 04 05 06 07 08");
  }

  private static void signsOfNumbers() {
    check.about("Terms, BYTES: ib, iw, id, io are numbers of 1, 2, 4, 8 bytes with their sign (iw without)");
    String[] ib = {"04", "80 C0", "83 C0", "C6 C0", "B0", "A8", "F6 C0", "6B C0", "6A", "EB", "70"};
    for (String head : ib) {
      number(head + " 00", 0);
      number(head + " 7F", 127);
      number(head + " 80", -128);
      number(head + " FF", -1);
    }
    String[] id = {"05", "81 C0", "C7 C0", "B8", "A9", "F7 C0", "69 C0", "68", "E9", "E8", "0F 80", "48 05", "48 81 C0",
        "48 C7 C0", "48 A9", "48 F7 C0", "48 69 C0"};
    for (String head : id) {
      number(head + " 00 00 00 00", 0);
      number(head + " 80 00 00 00", 128);
      number(head + " FF FF FF 7F", Integer.MAX_VALUE);
      number(head + " 00 00 00 80", Integer.MIN_VALUE);
      number(head + " FF FF FF FF", -1);
    }
    number("48 B8 FF FF FF FF FF FF FF 7F", Long.MAX_VALUE);
    number("48 B8 00 00 00 00 00 00 00 80", Long.MIN_VALUE);
    number("48 B8 FF FF FF FF FF FF FF FF", -1);
    number("48 B8 FF FF FF FF 00 00 00 00", 0xFFFFFFFFL);
    number("C2 00 00", 0);
    number("C2 FF 7F", 32767);
    number("C2 00 80", 32768);
    number("C2 FF FF", 65535);
  }

  private static void number(String hex, long due) {
    InstructionCoder x = new InstructionCoder();
    Check.feed(x, Check.bytes(hex));
    check.due("length of " + hex, Check.decodedCount(x), Check.bytes(hex).length);
    check.due("value() of " + hex, x.value(), due);
  }

  private static void registerR() {
    check.about("Terms, FORM: r is the register 8 R + reg");
    for (int reg = 0; reg < 8; reg++) {
      decodes(hex(0x40, 0x89, 0xC0 + 8 * reg), "8 4 0 r0 r" + reg);
      decodes(hex(0x44, 0x89, 0xC0 + 8 * reg), "8 4 0 r0 r" + (8 + reg));
      decodes(hex(0x44, 0x8D, 8 * reg), "11 4 0 r" + (8 + reg) + " m(0,-1,1,0)");
      decodes(hex(0x43, 0x8A, 0xC0 + 8 * reg), "8 1 0 r" + reg + " r8");
    }
  }

  private static void digitMakesRCountForNothing() {
    check.about("Terms, FORM: /n tells reg to be n (R counts for nothing then)");
    for (int prefix : new int[] {0x40, 0x44}) {
      for (int n = 0; n < 8; n++) {
        decodes(hex(prefix, 0x83, 0xC3 + 8 * n, 5), n + " 4 0 r3 n5");
        // NOT has /2, NEGATE /3, and so on.
        if (n > 1) decodes(hex(prefix, 0xF7, 0xC3 + 8 * n), 13 + n + " 4 0 r3");
      }
      isNone(hex(prefix, 0xF7, 0xC3 + 8, 5, 0, 0, 0));
    }
    decodes("44 8F C3", "30 8 0 r3");
    decodes("44 0F BA E3 05", "47 4 0 r3 n5");
    decodes("44 0F 90 FB", "35 1 0 r3");
    decodes("44 C7 C3 05 00 00 00", "8 4 0 r3 n5");
  }

  private static void modThreeIsARegister() {
    check.about("Terms, FORM: mod 3: the register 8 B + low");
    for (int low = 0; low < 8; low++) {
      decodes(hex(0x40, 0x89, 0xC0 + low), "8 4 0 r" + low + " r0");
      decodes(hex(0x41, 0x89, 0xC0 + low), "8 4 0 r" + (8 + low) + " r0");
      decodes(hex(0x46, 0x89, 0xC0 + low), "8 4 0 r" + low + " r8");
      decodes(hex(0x41, 0xFF, 0xF0 + low), "29 8 0 r" + (8 + low));
    }
  }

  private static void lowFourHasAnIndexByte() {
    check.about("Terms, FORM: low 4: an INDEX BYTE follows");
    for (int mod = 0; mod < 3; mod++) {
      for (int b : new int[] {0, B}) {
        int high = b == 0 ? 0 : 8;
        address(b, mod, 4, " 0B" + displacement(mod), (high + 3) + ",1,1," + displaced(mod));
        for (int low : new int[] {0, 1, 2, 3, 6, 7}) {
          address(b, mod, low, displacement(mod), (high + low) + ",-1,1," + displaced(mod));
        }
      }
    }
    decodes("89 C4", "8 4 0 r4 r0");
    decodes("41 89 C4", "8 4 0 r12 r0");
  }

  private static void scaleIsAPowerOfTwo() {
    check.about("Terms, FORM: the scale is 2 to the power s");
    for (int s = 0; s < 4; s++) {
      int scale = new int[] {1, 2, 4, 8}[s];
      for (int mod = 0; mod < 3; mod++) {
        address(0, mod, 4, " " + hex(64 * s + 8 + 3) + displacement(mod), "3,1," + scale + "," + displaced(mod));
      }
      address(0, 0, 4, " " + hex(64 * s + 8 + 5) + " 01 00 00 00", "-1,1," + scale + ",1");
    }
  }

  private static void indexWithX() {
    check.about("Terms, FORM: the index 8 X + i");
    for (int i = 0; i < 8; i++) {
      if (i != 4) address(0, 0, 4, " " + hex(8 * i + 3), "3," + i + ",1,0");
      address(X, 0, 4, " " + hex(8 * i + 3), "3," + (8 + i) + ",1,0");
      address(X + B, 1, 4, " " + hex(128 + 8 * i + 3) + " 7F", "11," + (8 + i) + ",4,127");
    }
  }

  private static void indexFourIsNone() {
    check.about("Terms, FORM: the index 4: none, the scale is 1 then");
    for (int s = 0; s < 4; s++) {
      int scale = new int[] {1, 2, 4, 8}[s];
      for (int b : new int[] {0, 1, 2, 3, 4, 6, 7}) {
        for (int mod = 0; mod < 3; mod++) {
          address(0, mod, 4, " " + hex(64 * s + 32 + b) + displacement(mod), b + ",-1,1," + displaced(mod));
          address(X, mod, 4, " " + hex(64 * s + 32 + b) + displacement(mod), b + ",12," + scale + "," + displaced(mod));
        }
      }
      address(0, 0, 4, " " + hex(64 * s + 32 + 5) + " 01 00 00 80", "-1,-1,1,-2147483647");
      address(X, 0, 4, " " + hex(64 * s + 32 + 5) + " 01 00 00 80", "-1,12," + scale + ",-2147483647");
    }
  }

  private static void baseOfTheIndexByte() {
    check.about("Terms, FORM: the base 8 B + b");
    for (int b = 0; b < 8; b++) {
      for (int mod = 0; mod < 3; mod++) {
        if (mod == 0 && b == 5) continue;
        address(0, mod, 4, " " + hex(8 * 1 + b) + displacement(mod), b + ",1,1," + displaced(mod));
        address(B, mod, 4, " " + hex(8 * 1 + b) + displacement(mod), (8 + b) + ",1,1," + displaced(mod));
        address(X, mod, 4, " " + hex(8 * 1 + b) + displacement(mod), b + ",9,1," + displaced(mod));
      }
    }
  }

  private static void indexByteWithoutABase() {
    check.about("Terms, FORM: with mod 0 and b 5 there is no base");
    for (int b : new int[] {0, B}) {
      address(b, 0, 4, " 4D FF FF FF 7F", "-1,1,2,2147483647");
      address(b, 0, 4, " 25 00 00 00 80", "-1,-1,1,-2147483648");
      address(b, 1, 4, " 4D 7F", (b == 0 ? 5 : 13) + ",1,2,127");
      address(b, 2, 4, " 4D FF FF FF 7F", (b == 0 ? 5 : 13) + ",1,2,2147483647");
    }
  }

  private static void lowFiveIsTheNextAddress() {
    check.about("Terms, FORM: low 5 with mod 0: base 16");
    for (int b : new int[] {0, B, X, X + B}) {
      address(b, 0, 5, " FF FF FF FF", "16,-1,1,-1");
      int base = (b & B) == 0 ? 5 : 13;
      address(b, 1, 5, " FF", base + ",-1,1,-1");
      address(b, 2, 5, " FF FF FF FF", base + ",-1,1,-1");
    }
  }

  private static void lowIsTheBase() {
    check.about("Terms, FORM: else the base is 8 B + low");
    for (int low = 0; low < 8; low++) {
      for (int mod = 0; mod < 3; mod++) {
        if (low == 4 || low == 5 && mod == 0) continue;
        address(0, mod, low, displacement(mod), low + ",-1,1," + displaced(mod));
        address(B, mod, low, displacement(mod), (8 + low) + ",-1,1," + displaced(mod));
        address(X + R + W, mod, low, displacement(mod), low + ",-1,1," + displaced(mod));
      }
    }
  }

  private static void displacementOfFour() {
    check.about("Terms, FORM: the displacement has 4 bytes with mod 2, with mod 0 and low 5, and with mod 0 and b 5");
    String[] rests = {" 00 00 00 00", " FF FF FF 7F", " 00 00 00 80", " FF FF FF FF", " 80 00 00 00"};
    int[] due = {0, Integer.MAX_VALUE, Integer.MIN_VALUE, -1, 128};
    for (int i = 0; i < rests.length; i++) {
      address(0, 2, 3, rests[i], "3,-1,1," + due[i]);
      address(B, 2, 5, rests[i], "13,-1,1," + due[i]);
      address(0, 2, 4, " 24" + rests[i], "4,-1,1," + due[i]);
      address(0, 0, 5, rests[i], "16,-1,1," + due[i]);
      address(0, 0, 4, " 25" + rests[i], "-1,-1,1," + due[i]);
      address(0, 0, 4, " DD" + rests[i], "-1,3,8," + due[i]);
    }
    for (String head : new String[] {"8D 83", "8D 84 24", "8D 05", "8D 04 25"}) isNone(head + " 01 02 03");
  }

  private static void displacementOfOne() {
    check.about("Terms, FORM: 1 with its sign with mod 1");
    String[] rests = {" 00", " 01", " 7F", " 80", " FF"};
    int[] due = {0, 1, 127, -128, -1};
    for (int i = 0; i < rests.length; i++) {
      for (int low : new int[] {0, 1, 2, 3, 5, 6, 7}) address(0, 1, low, rests[i], low + ",-1,1," + due[i]);
      address(0, 1, 4, " 25" + rests[i], "5,-1,1," + due[i]);
      address(X, 1, 4, " E4" + rests[i], "4,12,8," + due[i]);
    }
    isNone("8D 43");
    isNone("8D 44 24");
  }

  private static void displacementOfNone() {
    check.about("Terms, FORM: none else");
    for (int low : new int[] {0, 1, 2, 3, 6, 7}) {
      check.due("decode", Check.decode(hex(0x8D, low, 0x7F, 1, 1, 1)), "2: 11 4 0 r0 m(" + low + ",-1,1,0)");
    }
    for (int b : new int[] {0, 1, 2, 3, 4, 6, 7}) {
      check.due("decode", Check.decode(hex(0x8D, 4, 0x20 + b, 0x7F, 1, 1, 1)), "3: 11 4 0 r0 m(" + b + ",-1,1,0)");
    }
    for (int low = 0; low < 8; low++) {
      check.due("decode", Check.decode(hex(0x8B, 0xC0 + low, 0x7F, 1, 1, 1)), "2: 8 4 0 r0 r" + low);
    }
  }

  private static void plusRegister() {
    check.about("Terms, FORM: +r: a register's lower three bits are added, 8 B the rest");
    for (int low = 0; low < 8; low++) {
      for (int b = 0; b < 2; b++) {
        int register = 8 * b + low;
        decodes(hex(0x40 + b, 0x50 + low), "29 8 0 r" + register);
        decodes(hex(0x40 + b, 0x58 + low), "30 8 0 r" + register);
        decodes(hex(0x40 + b, 0xB0 + low, 5), "8 1 0 r" + register + " n5");
        decodes(hex(0x40 + b, 0xB8 + low, 5, 0, 0, 0), "8 4 0 r" + register + " n5");
        decodes(hex(0x48 + b, 0xB8 + low, 5, 0, 0, 0, 0, 0, 0, 0), "8 8 0 r" + register + " n5");
        decodes(hex(0x40 + b, 0x0F, 0xC8 + low), "46 4 0 r" + register);
        decodes(hex(0x46 + b, 0x0F, 0xC8 + low), "46 4 0 r" + register);
      }
    }
  }

  private static void sizeV() {
    check.about("Terms, FORM: v is the size 8 with W, else 4");
    String[] heads = {"8D 03|11 %d 0 r0 m(3,-1,1,0)", "0F B6 C3|12 %d 0 r0 r3", "0F BE C3|13 %d 0 r0 r3",
        "0F AF C3|23 %d 0 r0 r3", "6B C3 05|23 %d 0 r0 r3 n5",
      "69 C3 05 00 00 00|23 %d 0 r0 r3 n5", "0F 43 C3|36 %d 3 r0 r3", "99|37 %d 0", "98|38 %d 0", "0F BC C3|44 %d 0 r0 r3",
      "0F BD C3|45 %d 0 r0 r3",
      "0F CB|46 %d 0 r3", "0F A3 C3|47 %d 0 r3 r0", "0F BA E3 05|47 %d 0 r3 n5", "83 C3 05|0 %d 0 r3 n5"};
    for (String head : heads) {
      String bytes = head.substring(0, head.indexOf('|'));
      String fields = head.substring(head.indexOf('|') + 1);
      decodes(bytes, String.format(fields, 4));
      decodes("40 " + bytes, String.format(fields, 4));
      decodes("48 " + bytes, String.format(fields, 8));
    }
  }

  private static void sizeOneOrV() {
    check.about("Terms, FORM: 1 v: size 1 with the first opcode told, else v with the second");
    int[] pairs = {0x00, 0x02, 0x08, 0x0A, 0x38, 0x3A, 0x84, 0x86, 0x88, 0x8A, 0xD0, 0xD2, 0xFE, 0xA4, 0xAA, 0x0FC0, 0x0FB0};
    for (int first : pairs) {
      String head = first > 255 ? "0F " : "";
      String one = head + hex(first & 255) + " C1";
      String two = head + hex((first & 255) + 1) + " C1";
      for (String prefix : new String[] {"", "40 ", "48 "}) {
        check.due("size of " + prefix + one, sizeOf(prefix + one), 1);
        check.due("size of " + prefix + two, sizeOf(prefix + two), prefix.equals("48 ") ? 8 : 4);
      }
    }
    for (String one : new String[] {"04 05", "80 C1 05", "C6 C1 05", "A8 05", "F6 C1 05", "F6 D1", "C0 C1 05"}) {
      check.due("size of " + one, sizeOf(one), 1);
      check.due("size of 48 " + one, sizeOf("48 " + one), 1);
    }
    for (String two : new String[] {"05 05 00 00 00", "81 C1 05 00 00 00", "C7 C1 05 00 00 00", "A9 05 00 00 00",
        "F7 C1 05 00 00 00", "F7 D1", "C1 C1 05"}) {
      check.due("size of " + two, sizeOf(two), 4);
      check.due("size of 48 " + two, sizeOf("48 " + two), 8);
    }
    check.due("size of F3 A4", sizeOf("F3 48 A4"), 1);
    check.due("size of F3 AA", sizeOf("F3 48 AA"), 1);
    check.due("size of F3 A5", sizeOf("F3 48 A5"), 8);
    check.due("size of F3 AB", sizeOf("F3 47 AB"), 4);
    check.due("size of 48 B3", sizeOf("48 B3 05"), 1);
    check.due("size of 48 0F 90", sizeOf("48 0F 90 C3"), 1);
  }

  private static int sizeOf(String hex) {
    InstructionCoder x = new InstructionCoder();
    Check.feed(x, Check.bytes(hex));
    Check.decodedCount(x);
    return x.field(1);
  }

  private static void sizeEightWhateverW() {
    check.about("Terms, FORM: 8 is the size 8 whatever W is");
    for (String prefix : new String[] {"", "40 ", "48 "}) {
      for (String hex : new String[] {"53", "68 01 02 03 04", "6A 01", "FF F3", "FF 33", "5B", "8F C3", "8F 03"}) {
        check.due("size of " + prefix + hex, sizeOf(prefix + hex), 8);
      }
    }
    for (String fields : new String[] {"29 8 0 r3", "29 8 0 n1000", "29 8 0 n1", "29 8 0 m(3,-1,1,0)", "30 8 0 r3",
        "30 8 0 m(3,-1,1,0)"}) {
      check.due("no PREFIX in " + fields, Check.encode(fields).startsWith("4"), false);
    }
  }

  private static void noSizeWhateverW() {
    check.about("Terms, FORM: 0 no size");
    for (String prefix : new String[] {"", "40 ", "48 "}) {
      for (String hex : new String[] {"E9 01 02 03 04", "EB 01", "FF E3", "FF 23", "E8 01 02 03 04", "FF D3", "C3", "C2 01 02",
          "0F 80 01 02 03 04", "70 01", "90", "CC", "0F 0B", "0F 05", "C9"}) {
        check.due("size of " + prefix + hex, sizeOf(prefix + hex), 0);
      }
    }
  }

  private static void memoryAlone() {
    check.about("Terms, FORM: M is a FORM's memory alone");
    for (int form = 0xC0; form <= 0xFF; form++) {
      for (int prefix = 0x40; prefix <= 0x4F; prefix++) isNone(hex(prefix, 0x8D, form, 0x24, 1, 2, 3, 4));
      isNone(hex(0x8D, form, 0x24, 1, 2, 3, 4));
    }
    for (int register = 0; register < 16; register++) check.due("encode", Check.encode("11 4 0 r1 r" + register), "none");
    decodes("8D BF 01 02 03 04", "11 4 0 r7 m(7,-1,1,67305985)");
  }

  private static void registerAIsToldByNoByte() {
    check.about("Terms, FORM: A is the register 0 (told by no byte)");
    for (int prefix = 0x40; prefix <= 0x4F; prefix++) {
      int v = prefix >= 0x48 ? 8 : 4;
      for (int n = 0; n < 8; n++) {
        decodes(hex(prefix, 8 * n + 4, 5), n + " 1 0 r0 n5");
        decodes(hex(prefix, 8 * n + 5, 5, 0, 0, 0), n + " " + v + " 0 r0 n5");
      }
      decodes(hex(prefix, 0xA8, 5), "9 1 0 r0 n5");
      decodes(hex(prefix, 0xA9, 5, 0, 0, 0), "9 " + v + " 0 r0 n5");
    }
  }

  private static void registerCIsToldByNoByte() {
    check.about("Terms, FORM: C is the register 1 with size 1 (told by no byte)");
    int[] digits = {0, 1, 4, 5, 7};
    for (int i = 0; i < digits.length; i++) {
      for (int prefix = 0x40; prefix <= 0x4F; prefix++) {
        int v = prefix >= 0x48 ? 8 : 4;
        int register = (prefix & B) != 0 ? 11 : 3;
        decodes(hex(prefix, 0xD2, 0xC3 + 8 * digits[i]), 24 + i + " 1 0 r" + register + " r1");
        decodes(hex(prefix, 0xD3, 0xC3 + 8 * digits[i]), 24 + i + " " + v + " 0 r" + register + " r1");
      }
    }
  }
}
