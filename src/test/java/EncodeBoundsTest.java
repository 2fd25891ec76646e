/** Terms: TO ENCODE: numbers, PREFIX, INDEX BYTE, displacement and the choice of a line, a test for each bound. */
public final class EncodeBoundsTest {
  private static final long INT_MIN = Integer.MIN_VALUE;
  private static final long INT_MAX = Integer.MAX_VALUE;

  private static final Check check = new Check();

  public static void main(String[] args) {
    numbersOfIb();
    numbersOfId();
    numbersOfIo();
    numbersOfIw();
    numbersWithoutASign();
    justTheNumberOne();
    justA();
    justC();
    repeatMarkIfMarked();
    prefixOfRegistersOfSizeOne();
    prefixOfOtherRegisters();
    prefixOfTheMemory();
    wForTheSizeEightOfV();
    prefixOfPlusRegister();
    anyDigitAsZero();
    indexByteIfItCannotBeWithout();
    indexByteWithoutAnIndex();
    indexByteWithoutABase();
    displacementLeftOut();
    displacementOfOneByte();
    displacementOfFourBytes();
    fewestBytesOfMoves();
    fewestBytesWithANumber();
    fewestBytesWithARegister();
    theFirstLineOfEquallyMany();
    check.end();
  }

  private static String hex(int... row) {
    return Check.hex(row, row.length);
  }

  private static void encodes(String fields, String hex) {
    check.due("encode of " + fields, Check.encode(fields), hex);
  }

  /** Fields that have bytes with the numbers from first to last alone. */
  private static void numbersAre(String fields, long first, long last) {
    for (long v : new long[] {first, first + 1, last - 1, last, (first + last) / 2}) {
      check.due("encode and decode of " + fields + " n" + v, Check.thereAndBack(fields + " n" + v), fields + " n" + v);
    }
    long[] others = {first - 1, last + 1, first - 256, last + 256, first - 65536, last + 65536, first + (1L << 32),
        last + (1L << 32), first - (1L << 32),
      1L << 32, (1L << 32) + 1, 1L << 40, 1L << 63, (1L << 63) + 1, Long.MAX_VALUE, Long.MIN_VALUE};
    for (long v : others) {
      if (v < first || v > last) encodes(fields + " n" + v, "none");
    }
  }

  private static void numbersOfIb() {
    check.about("Terms, TO ENCODE: a number must be as its ib can tell it");
    for (int op = 0; op <= 9; op++) {
      for (String m : new String[] {"r0", "r1", "r4", "r15", "m(3,-1,1,0)", "m(16,-1,1,128)"}) {
        numbersAre(op + " 1 0 " + m, -128, 127);
      }
    }
  }

  private static void numbersOfId() {
    check.about("Terms, TO ENCODE: a number must be as its id can tell it");
    for (int op = 0; op <= 9; op++) {
      for (String m : new String[] {"r0", "r1", "r15", "m(3,-1,1,0)", "m(16,-1,1,128)"}) {
        numbersAre(op + " 4 0 " + m, INT_MIN, INT_MAX);
        if (op != 8 || m.startsWith("m")) numbersAre(op + " 8 0 " + m, INT_MIN, INT_MAX);
      }
    }
    String[] others = {"23 4 0 r1 r2", "23 8 0 r1 m(3,-1,1,0)", "29 8 0", "31 0 0", "32 0 0", "34 0 0", "34 0 15"};
    for (String fields : others) numbersAre(fields, INT_MIN, INT_MAX);
  }

  private static void numbersOfIo() {
    check.about("Terms, TO ENCODE: a number must be as its io can tell it");
    long[] numbers = {0, 1, -1, 127, 128, INT_MIN, INT_MAX, INT_MIN - 1, INT_MAX + 1, 0xFFFFFFFFL, 1L << 32, Long.MAX_VALUE,
        Long.MIN_VALUE};
    for (long v : numbers) {
      for (int register = 0; register < 16; register++) {
        String fields = "8 8 0 r" + register + " n" + v;
        check.due("encode and decode of " + fields, Check.thereAndBack(fields), fields);
      }
    }
    encodes("8 8 0 r0 n-9223372036854775808", "48 B8 00 00 00 00 00 00 00 80");
    encodes("8 8 0 r15 n9223372036854775807", "49 BF FF FF FF FF FF FF FF 7F");
  }

  private static void numbersOfIw() {
    check.about("Terms, TO ENCODE: a number must be as its iw can tell it");
    numbersAre("33 0 0", 0, 65535);
    encodes("33 0 0 n32768", "C2 00 80");
    encodes("33 0 0 n65535", "C2 FF FF");
    encodes("33 0 0 n-1", "none");
    encodes("33 0 0 n-32768", "none");
  }

  private static void numbersWithoutASign() {
    check.about("Terms, TO ENCODE: an ib without a sign tells 0 .. 255");
    for (int op = 24; op <= 28; op++) {
      for (String m : new String[] {"r0", "r3", "r12", "m(3,-1,1,0)"}) {
        for (int size : new int[] {1, 4, 8}) numbersAre(op + " " + size + " 0 " + m, 0, 255);
      }
    }
    for (int size : new int[] {4, 8}) {
      numbersAre("47 " + size + " 0 r3", 0, 255);
      numbersAre("47 " + size + " 0 m(3,-1,1,0)", 0, 255);
    }
    encodes("26 4 0 r3 n128", "C1 E3 80");
    encodes("47 4 0 r3 n128", "0F BA E3 80");
    encodes("26 4 0 r3 n-128", "none");
    encodes("47 4 0 r3 n-128", "none");
  }

  private static void justTheNumberOne() {
    check.about("Terms, TO ENCODE: the number 1 is just this");
    int[] digits = {0, 1, 4, 5, 7};
    for (int i = 0; i < digits.length; i++) {
      int form = 0xC3 + 8 * digits[i];
      encodes(24 + i + " 1 0 r3 n1", hex(0xD0, form));
      encodes(24 + i + " 4 0 r3 n1", hex(0xD1, form));
      encodes(24 + i + " 8 0 r3 n1", hex(0x48, 0xD1, form));
      encodes(24 + i + " 1 0 r3 n0", hex(0xC0, form, 0));
      encodes(24 + i + " 4 0 r3 n2", hex(0xC1, form, 2));
      encodes(24 + i + " 4 0 r3 n255", hex(0xC1, form, 255));
      encodes(24 + i + " 4 0 r3 n-1", "none");
      encodes(24 + i + " 4 0 r3 n257", "none");
      encodes(24 + i + " 4 0 r3 n4294967297", "none");
    }
    encodes("47 4 0 r3 n1", "0F BA E3 01");
  }

  private static void justA() {
    check.about("Terms, TO ENCODE: A is just this");
    for (int n = 0; n < 8; n++) {
      encodes(n + " 1 0 r0 n5", hex(8 * n + 4, 5));
      encodes(n + " 4 0 r0 n128", hex(8 * n + 5, 0x80, 0, 0, 0));
      for (int register = 1; register < 4; register++) {
        encodes(n + " 1 0 r" + register + " n5", hex(0x80, 0xC0 + 8 * n + register, 5));
        encodes(n + " 4 0 r" + register + " n128", hex(0x81, 0xC0 + 8 * n + register, 0x80, 0, 0, 0));
      }
      encodes(n + " 1 0 r8 n5", hex(0x41, 0x80, 0xC0 + 8 * n, 5));
      encodes(n + " 8 0 r8 n128", hex(0x49, 0x81, 0xC0 + 8 * n, 0x80, 0, 0, 0));
      encodes(n + " 1 0 m(0,-1,1,0) n5", hex(0x80, 8 * n, 5));
    }
    encodes("9 1 0 r0 n5", "A8 05");
    encodes("9 8 0 r0 n5", "48 A9 05 00 00 00");
    encodes("9 1 0 r1 n5", "F6 C1 05");
    encodes("9 4 0 r8 n5", "41 F7 C0 05 00 00 00");
  }

  private static void justC() {
    check.about("Terms, TO ENCODE: C is just this");
    int[] digits = {0, 1, 4, 5, 7};
    for (int i = 0; i < digits.length; i++) {
      for (int size : new int[] {1, 4, 8}) {
        for (int register = 0; register < 16; register++) {
          String head = (size == 8 ? "48 " : "") + hex(size == 1 ? 0xD2 : 0xD3) + " ";
          String onRegister = register == 1 ? head + hex(0xC3 + 8 * digits[i]) : "none";
          String onMemory = register == 1 ? head + hex(0x03 + 8 * digits[i]) : "none";
          encodes(24 + i + " " + size + " 0 r3 r" + register, onRegister);
          encodes(24 + i + " " + size + " 0 m(3,-1,1,0) r" + register, onMemory);
        }
      }
    }
  }

  private static void repeatMarkIfMarked() {
    check.about("Terms, TO ENCODE: F3 if it is marked so");
    String[] vectors = {"50 1 0", "A4", "50 4 0", "A5", "50 8 0", "48 A5", "51 1 0", "AA", "51 4 0", "AB", "51 8 0", "48 AB",
      "52 1 0", "F3 A4", "52 4 0", "F3 A5", "52 8 0", "F3 48 A5", "53 1 0", "F3 AA", "53 4 0", "F3 AB", "53 8 0", "F3 48 AB"};
    for (int i = 0; i < vectors.length; i += 2) encodes(vectors[i], vectors[i + 1]);
  }

  /** The PREFIX, told as "40 " or "", that the registers r and m and the size need. */
  private static String prefix(boolean w, int r, int m, boolean rOfSizeOne, boolean mOfSizeOne) {
    int bits = (w ? 8 : 0) + (r > 7 ? 4 : 0) + (m > 7 ? 1 : 0);
    boolean needed = rOfSizeOne && r >= 4 && r <= 7 || mOfSizeOne && m >= 4 && m <= 7;
    return bits != 0 || needed ? hex(0x40 + bits) + " " : "";
  }

  private static void prefixOfRegistersOfSizeOne() {
    check.about("Terms, TO ENCODE: a PREFIX if it is needed: registers of size 1 with the numbers 4 .. 7");
    for (int r = 0; r < 16; r++) {
      for (int m = 0; m < 16; m++) {
        int form = 0xC0 + 8 * (r % 8) + m % 8;
        encodes("0 1 0 r" + m + " r" + r, prefix(false, r, m, true, true) + hex(0x00, form));
        encodes("10 1 0 r" + m + " r" + r, prefix(false, r, m, true, true) + hex(0x86, form));
        encodes("49 1 0 r" + m + " r" + r, prefix(false, r, m, true, true) + hex(0x0F, 0xB0, form));
        encodes("12 4 0 r" + r + " r" + m, prefix(false, r, m, false, true) + hex(0x0F, 0xB6, form));
        encodes("13 8 0 r" + r + " r" + m, prefix(true, r, m, false, true) + hex(0x0F, 0xBE, form));
      }
      encodes("8 1 0 r" + r + " m(7,-1,1,0)", prefix(false, r, 0, true, false) + hex(0x8A, 8 * (r % 8) + 7));
      encodes("8 1 0 m(6,-1,1,0) r" + r, prefix(false, r, 0, true, false) + hex(0x88, 8 * (r % 8) + 6));
      encodes("12 4 0 r" + r + " m(6,-1,1,0)", prefix(false, r, 0, false, false) + hex(0x0F, 0xB6, 8 * (r % 8) + 6));
      encodes("15 1 0 r" + r, prefix(false, 0, r, false, true) + hex(0xF6, 0xD0 + r % 8));
      encodes("35 1 0 r" + r, prefix(false, 0, r, false, true) + hex(0x0F, 0x90, 0xC0 + r % 8));
      encodes("26 1 0 r" + r + " n5", prefix(false, 0, r, false, true) + hex(0xC0, 0xE0 + r % 8, 5));
      encodes("26 1 0 r" + r + " n1", prefix(false, 0, r, false, true) + hex(0xD0, 0xE0 + r % 8));
      encodes("26 1 0 r" + r + " r1", prefix(false, 0, r, false, true) + hex(0xD2, 0xE0 + r % 8));
      encodes("8 1 0 r" + r + " n5", prefix(false, 0, r, false, true) + hex(0xB0 + r % 8, 5));
      if (r > 0) encodes("7 1 0 r" + r + " n5", prefix(false, 0, r, false, true) + hex(0x80, 0xF8 + r % 8, 5));
    }
  }

  private static void prefixOfOtherRegisters() {
    check.about("Terms, TO ENCODE: a PREFIX with the bits that are needed alone: R and B for the registers 8 .. 15");
    for (int r = 0; r < 16; r++) {
      for (int m = 0; m < 16; m++) {
        int form = 0xC0 + 8 * (r % 8) + m % 8;
        encodes("0 4 0 r" + m + " r" + r, prefix(false, r, m, false, false) + hex(0x01, form));
        encodes("0 8 0 r" + m + " r" + r, prefix(true, r, m, false, false) + hex(0x01, form));
        encodes("14 8 0 r" + r + " r" + m, prefix(true, r, m, false, false) + hex(0x63, form));
        encodes("36 4 7 r" + r + " r" + m, prefix(false, r, m, false, false) + hex(0x0F, 0x47, form));
        encodes("23 4 0 r" + r + " r" + m + " n5", prefix(false, r, m, false, false) + hex(0x6B, form, 5));
        encodes("47 4 0 r" + m + " r" + r, prefix(false, r, m, false, false) + hex(0x0F, 0xA3, form));
      }
      encodes("31 0 0 r" + r, prefix(false, 0, r, false, false) + hex(0xFF, 0xE0 + r % 8));
      encodes("32 0 0 r" + r, prefix(false, 0, r, false, false) + hex(0xFF, 0xD0 + r % 8));
      encodes("15 4 0 r" + r, prefix(false, 0, r, false, false) + hex(0xF7, 0xD0 + r % 8));
    }
  }

  private static void prefixOfTheMemory() {
    check.about("Terms, TO ENCODE: a PREFIX with the bits that are needed alone: B for a base, X for an index 8 .. 15");
    for (int base = -1; base < 16; base++) {
      for (int index = -1; index < 16; index++) {
        if (index == 4) continue;
        int bits = (base > 7 ? 1 : 0) + (index > 7 ? 2 : 0);
        String bytes = Check.encode("11 4 0 r1 m(" + base + "," + index + ",1,0)");
        String due = bits == 0 ? "8D" : hex(0x40 + bits, 0x8D);
        check.due("head of base " + base + ", index " + index, bytes.startsWith(due), true);
        String byByte = Check.encode("8 1 0 m(" + base + "," + index + ",1,0) r1");
        String byByteDue = bits == 0 ? "88" : hex(0x40 + bits, 0x88);
        check.due("head of size 1, base " + base + ", index " + index, byByte.startsWith(byByteDue), true);
        String wide = Check.encode("11 8 0 r9 m(" + base + "," + index + ",1,0)");
        check.due("head of size 8, base " + base + ", index " + index, wide.startsWith(hex(0x4C + bits, 0x8D)), true);
      }
    }
    encodes("11 4 0 r1 m(16,-1,1,0)", "8D 0D 00 00 00 00");
    encodes("11 4 0 r9 m(16,-1,1,0)", "44 8D 0D 00 00 00 00");
    encodes("31 0 0 m(9,10,1,0)", "43 FF 24 11");
    encodes("29 8 0 m(9,10,1,0)", "43 FF 34 11");
  }

  private static void wForTheSizeEightOfV() {
    check.about("Terms, TO ENCODE: W for the size 8 of v, and for 14");
    String[] v = {"0 %d 0 r1 r2", "01 D1", "8 %d 0 r1 m(3,-1,1,0)", "8B 0B", "9 %d 0 r0 n5", "A9 05 00 00 00",
        "11 %d 0 r1 m(3,-1,1,0)", "8D 0B", "12 %d 0 r1 r2", "0F B6 CA",
      "13 %d 0 r1 r2", "0F BE CA", "20 %d 0 r1", "F7 F9", "22 %d 0 r1", "FF C9", "23 %d 0 r1 r2", "0F AF CA", "24 %d 0 r1 n2",
      "C1 C1 02", "36 %d 0 r1 r2", "0F 40 CA", "37 %d 0", "99", "38 %d 0", "98",
      "44 %d 0 r1 r2", "0F BC CA", "45 %d 0 r1 r2", "0F BD CA", "46 %d 0 r1", "0F C9", "47 %d 0 r1 r2", "0F A3 D1",
      "48 %d 0 r1 r2", "0F C1 D1", "49 %d 0 r1 r2", "0F B1 D1", "50 %d 0", "A5", "51 %d 0", "AB"};
    for (int i = 0; i < v.length; i += 2) {
      encodes(String.format(v[i], 4), v[i + 1]);
      encodes(String.format(v[i], 8), "48 " + v[i + 1]);
    }
    String[] others = {"14 8 0 r1 r2", "48 63 CA", "29 8 0 r1", "51", "29 8 0 n5", "6A 05", "29 8 0 n128", "68 80 00 00 00",
        "29 8 0 m(3,-1,1,0)", "FF 33", "30 8 0 r1", "59",
      "30 8 0 m(3,-1,1,0)", "8F 03", "31 0 0 r1", "FF E1", "31 0 0 m(3,-1,1,0)", "FF 23", "32 0 0 r1", "FF D1", "35 1 0 r1",
      "0F 90 C1", "0 1 0 r1 r2", "00 D1"};
    for (int i = 0; i < others.length; i += 2) encodes(others[i], others[i + 1]);
  }

  private static void prefixOfPlusRegister() {
    check.about("Terms, TO ENCODE: a PREFIX if it is needed: B for +r with the registers 8 .. 15");
    for (int r = 0; r < 16; r++) {
      String b = r > 7 ? "41 " : "";
      encodes("29 8 0 r" + r, b + hex(0x50 + r % 8));
      encodes("30 8 0 r" + r, b + hex(0x58 + r % 8));
      encodes("8 4 0 r" + r + " n5", b + hex(0xB8 + r % 8, 5, 0, 0, 0));
      encodes("8 8 0 r" + r + " n4294967296", hex(r > 7 ? 0x49 : 0x48, 0xB8 + r % 8, 0, 0, 0, 0, 1, 0, 0, 0));
      encodes("46 4 0 r" + r, b + hex(0x0F, 0xC8 + r % 8));
      encodes("46 8 0 r" + r, hex(r > 7 ? 0x49 : 0x48, 0x0F, 0xC8 + r % 8));
    }
  }

  private static void anyDigitAsZero() {
    check.about("Terms, TO ENCODE: any /n as /0");
    InstructionCoder x = new InstructionCoder();
    for (int c = 0; c < 16; c++) {
      encodes("35 1 " + c + " r3", hex(0x0F, 0x90 + c, 0xC3));
      encodes("35 1 " + c + " m(3,-1,1,0)", hex(0x0F, 0x90 + c, 0x03));
      // What was decoded with another /n is encoded with /0 as well.
      Check.feed(x, new int[] {0x44, 0x0F, 0x90 + c, 0xFB});
      check.due("decode", Check.decoded(x), "4: 35 1 " + c + " r3");
      check.due("encode", Check.encoded(x), hex(0x0F, 0x90 + c, 0xC3));
    }
  }

  private static String address(int base, int index, int scale, int displacement) {
    return "11 4 0 r1 m(" + base + "," + index + "," + scale + "," + displacement + ")";
  }

  private static void indexByteIfItCannotBeWithout() {
    check.about("Terms, TO ENCODE: for a memory an INDEX BYTE if it can't be without one");
    for (int base = 0; base < 16; base++) {
      String head = base > 7 ? "41 8D " : "8D ";
      String indexByte = base % 8 == 4 ? " 24" : "";
      encodes(address(base, -1, 1, 1), head + hex(0x48 + base % 8) + indexByte + " 01");
      encodes(address(base, -1, 1, 1000), head + hex(0x88 + base % 8) + indexByte + " E8 03 00 00");
      if (base % 8 != 5) encodes(address(base, -1, 1, 0), head + hex(0x08 + base % 8) + indexByte);
      for (int index = 0; index < 16; index++) {
        if (index == 4) continue;
        int bits = (base > 7 ? 1 : 0) + (index > 7 ? 2 : 0);
        for (int s = 0; s < 4; s++) {
          String bytes = hex(0x8D, 0x4C, 64 * s + 8 * (index % 8) + base % 8, 1);
          encodes(address(base, index, 1 << s, 1), (bits == 0 ? "" : hex(0x40 + bits) + " ") + bytes);
        }
      }
    }
    encodes(address(16, -1, 1, 1), "8D 0D 01 00 00 00");
  }

  private static void indexByteWithoutAnIndex() {
    check.about("Terms, TO ENCODE: s 0 without an index");
    encodes(address(4, -1, 1, 0), "8D 0C 24");
    encodes(address(12, -1, 1, 0), "41 8D 0C 24");
    encodes(address(-1, -1, 1, 7), "8D 0C 25 07 00 00 00");
    // What was decoded with another s is encoded with 0.
    for (int s = 0; s < 4; s++) {
      InstructionCoder x = new InstructionCoder();
      Check.feed(x, new int[] {0x8D, 0x0C, 64 * s + 0x24});
      check.due("decode", Check.decoded(x), "3: " + address(4, -1, 1, 0));
      check.due("encode", Check.encoded(x), "8D 0C 24");
    }
  }

  private static void indexByteWithoutABase() {
    check.about("Terms, TO ENCODE: without a base, but base 16: b 5 with mod 0");
    for (int displacement : new int[] {0, 1, -128, 127, 128, Integer.MIN_VALUE, Integer.MAX_VALUE}) {
      String four = " " + hex(displacement & 255, displacement >> 8 & 255, displacement >> 16 & 255, displacement >> 24 & 255);
      encodes(address(-1, -1, 1, displacement), "8D 0C 25" + four);
      encodes(address(-1, 1, 1, displacement), "8D 0C 0D" + four);
      encodes(address(-1, 5, 8, displacement), "8D 0C ED" + four);
      encodes(address(-1, 12, 2, displacement), "42 8D 0C 65" + four);
      encodes(address(-1, 13, 4, displacement), "42 8D 0C AD" + four);
      encodes(address(16, -1, 1, displacement), "8D 0D" + four);
    }
  }

  private static void displacementLeftOut() {
    check.about("Terms, TO ENCODE: no displacement if that is 0 and can be left out");
    for (int base = 0; base < 16; base++) {
      String head = base > 7 ? "41 8D " : "8D ";
      boolean kept = base % 8 == 5;
      String low = base % 8 == 4 ? " 24" : "";
      encodes(address(base, -1, 1, 0), head + hex((kept ? 0x48 : 0x08) + base % 8) + low + (kept ? " 00" : ""));
      encodes(address(base, 2, 4, 0), head + hex(kept ? 0x4C : 0x0C, 0x90 + base % 8) + (kept ? " 00" : ""));
      encodes(address(base, 5, 1, 0), head + hex(kept ? 0x4C : 0x0C, 0x28 + base % 8) + (kept ? " 00" : ""));
    }
  }

  private static void displacementOfOneByte() {
    check.about("Terms, TO ENCODE: else one byte if it fits");
    for (int displacement : new int[] {-128, -127, -1, 1, 2, 126, 127}) {
      String one = " " + hex(displacement & 255);
      for (int base : new int[] {0, 3, 5, 7}) {
        encodes(address(base, -1, 1, displacement), "8D " + hex(0x48 + base) + one);
        encodes(address(base, 2, 4, displacement), "8D 4C " + hex(0x90 + base) + one);
      }
      encodes(address(4, -1, 1, displacement), "8D 4C 24" + one);
      encodes(address(13, -1, 1, displacement), "41 8D 4D" + one);
    }
  }

  private static void displacementOfFourBytes() {
    check.about("Terms, TO ENCODE: else four");
    int[] displacements = {-129, 128, 255, 256, -256, 384, 65536, 1 << 24, -(1 << 24), Integer.MAX_VALUE, Integer.MIN_VALUE};
    for (int displacement : displacements) {
      String four = " " + hex(displacement & 255, displacement >> 8 & 255, displacement >> 16 & 255, displacement >> 24 & 255);
      for (int base : new int[] {0, 3, 5, 7}) {
        encodes(address(base, -1, 1, displacement), "8D " + hex(0x88 + base) + four);
        encodes(address(base, 2, 4, displacement), "8D 8C " + hex(0x90 + base) + four);
      }
      encodes(address(4, -1, 1, displacement), "8D 8C 24" + four);
      encodes(address(13, -1, 1, displacement), "41 8D 8D" + four);
    }
  }

  private static void fewestBytesOfMoves() {
    check.about("Terms, TO ENCODE: of several lines those bytes that are fewest: 8 MOVE");
    encodes("8 1 0 r3 n5", "B3 05");
    encodes("8 1 0 m(3,-1,1,0) n5", "C6 03 05");
    encodes("8 4 0 r3 n5", "BB 05 00 00 00");
    encodes("8 4 0 r11 n-1", "41 BB FF FF FF FF");
    encodes("8 4 0 m(3,-1,1,0) n5", "C7 03 05 00 00 00");
    // Seven bytes by C7 for what an id tells, ten by B8 for the rest.
    encodes("8 8 0 r3 n2147483647", "48 C7 C3 FF FF FF 7F");
    encodes("8 8 0 r3 n-2147483648", "48 C7 C3 00 00 00 80");
    encodes("8 8 0 r3 n2147483648", "48 BB 00 00 00 80 00 00 00 00");
    encodes("8 8 0 r3 n-2147483649", "48 BB FF FF FF 7F FF FF FF FF");
    encodes("8 8 0 r3 n4294967295", "48 BB FF FF FF FF 00 00 00 00");
  }

  /** With the numbers -128 .. 127 the bytes of the first text, beyond them those of the second, then the id. */
  private static void smallOrWide(String fields, String small, String wide) {
    for (int v : new int[] {-128, -1, 0, 127}) encodes(fields + " n" + v, small + " " + hex(v & 255));
    for (int v : new int[] {-129, 128, 255, 256, Integer.MAX_VALUE, Integer.MIN_VALUE}) {
      encodes(fields + " n" + v, wide + " " + hex(v & 255, v >> 8 & 255, v >> 16 & 255, v >> 24 & 255));
    }
  }

  private static void fewestBytesWithANumber() {
    check.about("Terms, TO ENCODE: of several lines those bytes that are fewest: ib or id");
    for (int n = 0; n < 8; n++) {
      int form = 0xC0 + 8 * n;
      smallOrWide(n + " 4 0 r0", hex(0x83, form), hex(8 * n + 5));
      smallOrWide(n + " 8 0 r0", hex(0x48, 0x83, form), hex(0x48, 8 * n + 5));
      smallOrWide(n + " 4 0 r3", hex(0x83, form + 3), hex(0x81, form + 3));
      smallOrWide(n + " 8 0 r8", hex(0x49, 0x83, form), hex(0x49, 0x81, form));
      smallOrWide(n + " 4 0 m(3,-1,1,0)", hex(0x83, 8 * n + 3), hex(0x81, 8 * n + 3));
    }
    smallOrWide("23 4 0 r1 r2", "6B CA", "69 CA");
    smallOrWide("23 8 0 r1 m(3,-1,1,0)", "48 6B 0B", "48 69 0B");
    smallOrWide("29 8 0", "6A", "68");
    smallOrWide("31 0 0", "EB", "E9");
    for (int c = 0; c < 16; c++) smallOrWide("34 0 " + c, hex(0x70 + c), hex(0x0F, 0x80 + c));
    // These have no ib.
    encodes("32 0 0 n0", "E8 00 00 00 00");
    encodes("9 4 0 r0 n0", "A9 00 00 00 00");
    encodes("9 4 0 r3 n0", "F7 C3 00 00 00 00");
  }

  private static void fewestBytesWithARegister() {
    check.about("Terms, TO ENCODE: of several lines those bytes that are fewest: A, +r, the number 1");
    for (int n = 0; n < 8; n++) {
      encodes(n + " 1 0 r0 n-128", hex(8 * n + 4, 0x80));
      encodes(n + " 4 0 r0 n-129", hex(8 * n + 5, 0x7F, 0xFF, 0xFF, 0xFF));
    }
    encodes("9 1 0 r0 n-128", "A8 80");
    encodes("9 4 0 r0 n-129", "A9 7F FF FF FF");
    encodes("29 8 0 r7", "57");
    encodes("29 8 0 r15", "41 57");
    encodes("30 8 0 r7", "5F");
    encodes("30 8 0 r15", "41 5F");
    encodes("26 1 0 r7 n1", "40 D0 E7");
    encodes("28 8 0 m(3,-1,1,0) n1", "48 D1 3B");
  }

  private static void theFirstLineOfEquallyMany() {
    check.about("Terms, TO ENCODE: of equally many those of the first line");
    for (int op = 0; op <= 8; op++) {
      int opcode = op == 8 ? 0x88 : 8 * op;
      encodes(op + " 1 0 r1 r2", hex(opcode, 0xD1));
      encodes(op + " 4 0 r1 r2", hex(opcode + 1, 0xD1));
      encodes(op + " 8 0 r9 r2", hex(0x49, opcode + 1, 0xD1));
      encodes(op + " 8 0 r1 r10", hex(0x4C, opcode + 1, 0xD1));
      encodes(op + " 1 0 r4 r4", hex(0x40, opcode, 0xE4));
      encodes(op + " 4 0 r1 m(2,-1,1,0)", hex(opcode + 3, 0x0A));
      encodes(op + " 4 0 m(2,-1,1,0) r1", hex(opcode + 1, 0x0A));
    }
  }
}
