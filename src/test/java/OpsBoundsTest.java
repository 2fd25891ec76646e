import java.util.Set;
import java.util.TreeSet;

/** Terms: OPS, "A register of size 1 ..", and TO DECODE: which bytes are an instruction, which are none. */
public final class OpsBoundsTest {
  /** The first bytes of the table's opcodes, and the second ones behind 0F, as the document has them. */
  private static final String ONE_BYTE = "00-05 08-0D 10-15 18-1D 20-25 28-2D 30-35 38-3D 50-5F 63 68-6B 70-81 83-8B 8D 8F-90"
      + " 98-99 A4-A5 A8-AB B0-C3 C6-C7 C9 CC D0-D3 E8-E9 EB F6-F7 FE-FF";
  private static final String TWO_BYTES = "05 0B 40-4F 80-9F A3 AF-B1 B6 BA BC-BE C0-C1 C8-CF";

  /** The opcodes with /n, and their n. */
  private static final String[] DIGITS = {
    "80 01234567", "81 01234567", "83 01234567", "8F 0", "C0 01457", "C1 01457", "C6 0", "C7 0", "D0 01457", "D1 01457",
    "D2 01457", "D3 01457",
    "F6 0234567", "F7 0234567", "FE 01", "FF 01246", "0F BA 4",
  };

  /** The lines "m r" and "r m" with the size v: the op, and its opcode (op 36 with the condition 0). */
  private static final String[] M_R = {
    "0 01", "1 09", "2 11", "3 19", "4 21", "5 29", "6 31", "7 39", "8 89", "9 85", "10 87", "47 0F A3", "48 0F C1", "49 0F B1",
  };
  private static final String[] R_M = {
    "0 03", "1 0B", "2 13", "3 1B", "4 23", "5 2B", "6 33", "7 3B", "8 8B", "23 0F AF", "36 0F 40", "44 0F BC", "45 0F BD",
  };

  private static final Check check = new Check();

  public static void main(String[] args) {
    opcodesOfTheTable();
    digitsOfTheTable();
    linesOfZeroToSeven();
    linesWithRAndM();
    smallNumberForVAlone();
    moveByPlusRegister();
    smallOperandOfZeroAndSign();
    widenNeedsW();
    shiftNumberWithoutASign();
    shiftByOne();
    bitNumberWithoutASign();
    returnNumberWithoutASign();
    setHasAnyDigit();
    conditionsAreAdded();
    registersOfSizeOneNeedAPrefix();
    otherRegistersNeedNone();
    atMostOneOfEach();
    repeatMarkFirst();
    anOpcodeOfTheTableFollows();
    unusedBitsCountForNothing();
    check.end();
  }

  private static String hex(int... row) {
    return Check.hex(row, row.length);
  }

  private static void decodes(String hex, String fields) {
    check.due("decode of " + hex, Check.decode(hex), Check.bytes(hex).length + ": " + fields);
  }

  private static void isNone(String hex) {
    check.due("decode of " + hex, Check.decode(hex), "none");
  }

  private static Set<Integer> opcodes(String ranges) {
    Set<Integer> known = new TreeSet<>();
    for (String range : ranges.split(" ")) {
      int first = Integer.parseInt(range.substring(0, 2), 16);
      int last = range.length() > 2 ? Integer.parseInt(range.substring(3), 16) : first;
      for (int opcode = first; opcode <= last; opcode++) known.add(opcode);
    }
    return known;
  }

  /** Whether some FORM makes bytes with this PREFIX (0 none) and these opcode bytes an instruction. */
  private static boolean isSomeInstruction(int prefix, String opcode) {
    for (int form = 0; form < 256; form++) {
      String hex = (prefix == 0 ? "" : hex(prefix) + " ") + opcode + " " + hex(form, 0x24, 1, 2, 3, 4, 5, 6, 7, 8);
      if (!Check.decode(hex).equals("none")) return true;
    }
    return false;
  }

  private static void opcodesOfTheTable() {
    check.about("Terms, TO DECODE: an opcode of the table");
    Set<Integer> one = opcodes(ONE_BYTE);
    Set<Integer> two = opcodes(TWO_BYTES);
    for (int prefix : new int[] {0, 0x40, 0x44, 0x47, 0x48, 0x4F}) {
      for (int opcode = 0; opcode < 256; opcode++) {
        boolean lacksW = opcode == 0x63 && prefix < 0x48;
        boolean lacksPrefix = opcode >= 0xB4 && opcode <= 0xB7 && prefix == 0;
        // 0F, 40 .. 4F and F3 are no opcodes of their own.
        boolean other = opcode == 0x0F || opcode == 0xF3 || opcode >= 0x40 && opcode <= 0x4F;
        boolean due = one.contains(opcode) && !lacksW && !lacksPrefix;
        if (!other) check.due("opcode " + hex(prefix, opcode), isSomeInstruction(prefix, hex(opcode)), due);
        check.due("opcode " + hex(prefix, 0x0F, opcode), isSomeInstruction(prefix, "0F " + hex(opcode)), two.contains(opcode));
      }
    }
  }

  private static void digitsOfTheTable() {
    check.about("Terms, OPS: /n that no line has is no instruction");
    for (String line : DIGITS) {
      String opcode = line.substring(0, line.lastIndexOf(' '));
      String digits = line.substring(line.lastIndexOf(' ') + 1);
      for (int n = 0; n < 8; n++) {
        boolean due = digits.indexOf('0' + n) >= 0;
        for (int form : new int[] {0xC3, 0xC0, 0x03, 0x43, 0x83, 0x04, 0x05}) {
          for (String prefix : new String[] {"", "40 ", "44 ", "48 ", "4F "}) {
            String hex = prefix + opcode + " " + hex(form + 8 * n, 0x24, 1, 2, 3, 4, 5, 6, 7, 8);
            check.due("an instruction in " + hex, !Check.decode(hex).equals("none"), due);
          }
        }
      }
    }
  }

  private static void linesOfZeroToSeven() {
    check.about("Terms, OPS: 0 .. 7: m r: 8n, 8n + 1. r m: 8n + 2, 8n + 3. A id (ib): 8n + 4, 8n + 5. m id (ib): 80 /n, 81 /n");
    for (int n = 0; n < 8; n++) {
      decodes(hex(8 * n, 0xC8), n + " 1 0 r0 r1");
      decodes(hex(8 * n + 1, 0xC8), n + " 4 0 r0 r1");
      decodes(hex(8 * n + 2, 0xC8), n + " 1 0 r1 r0");
      decodes(hex(8 * n + 3, 0xC8), n + " 4 0 r1 r0");
      decodes(hex(8 * n + 4, 0x80), n + " 1 0 r0 n-128");
      decodes(hex(8 * n + 5, 0x80, 0, 0, 0), n + " 4 0 r0 n128");
      decodes(hex(0x80, 0xC1 + 8 * n, 0x80), n + " 1 0 r1 n-128");
      decodes(hex(0x81, 0xC1 + 8 * n, 0x80, 0, 0, 0), n + " 4 0 r1 n128");
      isNone(hex(8 * n + 6, 0xC8, 0, 0, 0, 0));
      if (n != 1) isNone(hex(8 * n + 7, 0xC8, 0, 0, 0, 0));
    }
  }

  /** Bytes of a line of M_R or R_M with a FORM of two registers, and the fields that are due. */
  private static void twoRegisters(String line, boolean mFirst, String prefix, int r, int m) {
    String op = line.substring(0, line.indexOf(' '));
    String opcode = line.substring(line.indexOf(' ') + 1);
    String size = prefix.compareTo("48") >= 0 ? " 8" : " 4";
    String operands = mFirst ? " r" + m + " r" + r : " r" + r + " r" + m;
    decodes(prefix + opcode + " " + hex(0xC0 + 8 * (r % 8) + m % 8), op + size + " 0" + operands);
  }

  private static void linesWithRAndM() {
    check.about("Terms, OPS: m r and r m: the operands in their order, r with any reg, m with any low");
    for (int r = 0; r < 16; r++) {
      for (int m = 0; m < 16; m++) {
        int bits = (r > 7 ? 4 : 0) + (m > 7 ? 1 : 0);
        for (String prefix : new String[] {hex(0x40 + bits) + " ", hex(0x48 + bits) + " "}) {
          for (String line : M_R) twoRegisters(line, true, prefix, r, m);
          for (String line : R_M) twoRegisters(line, false, prefix, r, m);
        }
      }
    }
  }

  private static void smallNumberForVAlone() {
    check.about("Terms, OPS: 0 .. 7: m ib, v alone: 83 /n");
    for (int n = 0; n < 8; n++) {
      decodes(hex(0x83, 0xC1 + 8 * n, 0x80), n + " 4 0 r1 n-128");
      decodes(hex(0x48, 0x83, 0xC1 + 8 * n, 0x7F), n + " 8 0 r1 n127");
      decodes(hex(0x83, 0x01 + 8 * n, 0xFF), n + " 4 0 m(1,-1,1,0) n-1");
      isNone(hex(0x82, 0xC1 + 8 * n, 0x80));
      check.due("encode of size 1", Check.encode(n + " 1 0 r1 n127"), hex(0x80, 0xC1 + 8 * n, 0x7F));
      check.due("encode of size 4", Check.encode(n + " 4 0 r1 n127"), hex(0x83, 0xC1 + 8 * n, 0x7F));
    }
  }

  private static void moveByPlusRegister() {
    check.about("Terms, OPS: 8 MOVE: +r: size 1: B0 ib, size 4: B8 id, size 8: B8 io");
    decodes("B3 80", "8 1 0 r3 n-128");
    decodes("48 B3 80", "8 1 0 r3 n-128");
    decodes("BB 00 00 00 80", "8 4 0 r3 n-2147483648");
    decodes("47 BB FF FF FF 7F", "8 4 0 r11 n2147483647");
    decodes("48 BB 00 00 00 00 00 00 00 80", "8 8 0 r3 n-9223372036854775808");
    isNone("48 BB 01 02 03 04 05 06 07");
    isNone("BB 01 02 03");
    isNone("B3");
  }

  private static void smallOperandOfZeroAndSign() {
    check.about("Terms, OPS: 12 ZERO, 13 SIGN: m has size 1 in both");
    for (int op = 12; op <= 13; op++) {
      int opcode = op == 12 ? 0xB6 : 0xBE;
      for (int low = 0; low < 8; low++) {
        String form = " " + hex(0xC0 + low);
        if (low < 4) decodes("0F " + hex(opcode) + form, op + " 4 0 r0 r" + low);
        else isNone("0F " + hex(opcode) + form);
        decodes("40 0F " + hex(opcode) + form, op + " 4 0 r0 r" + low);
        decodes("41 0F " + hex(opcode) + form, op + " 4 0 r0 r" + (8 + low));
        decodes("48 0F " + hex(opcode) + form, op + " 8 0 r0 r" + low);
        // The register r has the size v: 4 .. 7 need nothing there.
        decodes("0F " + hex(opcode, 0xC0 + 8 * low), op + " 4 0 r" + low + " r0");
        check.due("encode", Check.encode(op + " 4 0 r" + low + " r0"), "0F " + hex(opcode, 0xC0 + 8 * low));
        check.due("encode", Check.encode(op + " 4 0 r0 r" + low), (low < 4 ? "" : "40 ") + "0F " + hex(opcode, 0xC0 + low));
      }
    }
  }

  private static void widenNeedsW() {
    check.about("Terms, OPS: 14 WIDEN: 8, W must be 1 (m has size 4)");
    for (int bits = 0; bits < 16; bits++) {
      int r = (bits & 4) != 0 ? 14 : 6;
      int m = (bits & 1) != 0 ? 13 : 5;
      if (bits < 8) isNone(hex(0x40 + bits, 0x63, 0xF5));
      else decodes(hex(0x40 + bits, 0x63, 0xF5), "14 8 0 r" + r + " r" + m);
    }
    isNone("63 F5");
    check.due("encode", Check.encode("14 8 0 r6 r5"), "48 63 F5");
    check.due("encode", Check.encode("14 8 0 r6 m(5,-1,1,0)"), "48 63 75 00");
    check.due("encode of size 4", Check.encode("14 4 0 r6 r5"), "none");
    check.due("encode of no size", Check.encode("14 0 0 r6 r5"), "none");
  }

  private static void shiftNumberWithoutASign() {
    check.about("Terms, OPS: 24 .. 28: m ib: C0, C1 (the number is taken without a sign)");
    int[] digits = {0, 1, 4, 5, 7};
    for (int i = 0; i < digits.length; i++) {
      for (int number : new int[] {0, 1, 127, 128, 255}) {
        decodes(hex(0xC0, 0xC3 + 8 * digits[i], number), 24 + i + " 1 0 r3 n" + number);
        decodes(hex(0xC1, 0x03 + 8 * digits[i], number), 24 + i + " 4 0 m(3,-1,1,0) n" + number);
      }
    }
  }

  private static void shiftByOne() {
    check.about("Terms, OPS: 24 .. 28: m and the number 1: D0, D1");
    int[] digits = {0, 1, 4, 5, 7};
    for (int i = 0; i < digits.length; i++) {
      // The byte behind it is no number of it.
      check.due("decode", Check.decode(hex(0xD0, 0xC3 + 8 * digits[i], 9)), "2: " + (24 + i) + " 1 0 r3 n1");
      check.due("decode", Check.decode(hex(0x48, 0xD1, 0x43 + 8 * digits[i], 0x80, 9)),
          "4: " + (24 + i) + " 8 0 m(3,-1,1,-128) n1");
    }
  }

  private static void bitNumberWithoutASign() {
    check.about("Terms, OPS: 47 BIT: m ib: 0F BA /4 (without a sign)");
    for (int number : new int[] {0, 1, 127, 128, 255}) {
      decodes(hex(0x0F, 0xBA, 0xE3, number), "47 4 0 r3 n" + number);
      decodes(hex(0x48, 0x0F, 0xBA, 0x23, number), "47 8 0 m(3,-1,1,0) n" + number);
    }
  }

  private static void returnNumberWithoutASign() {
    check.about("Terms, OPS: 33 RETURN: C3. iw: C2");
    decodes("C3", "33 0 0");
    decodes("C2 00 00", "33 0 0 n0");
    decodes("C2 00 80", "33 0 0 n32768");
    decodes("C2 FF FF", "33 0 0 n65535");
    check.due("encode without a number", Check.encode("33 0 0"), "C3");
    check.due("encode with the number 0", Check.encode("33 0 0 n0"), "C2 00 00");
  }

  private static void setHasAnyDigit() {
    check.about("Terms, OPS: 35 SET: m: 0F 90 + c, any /n");
    for (int n = 0; n < 8; n++) {
      for (int prefix = 0x40; prefix <= 0x4F; prefix++) {
        decodes(hex(prefix, 0x0F, 0x9F, 0xC3 + 8 * n), "35 1 15 r" + ((prefix & 1) != 0 ? 11 : 3));
      }
      decodes(hex(0x0F, 0x90, 0x03 + 8 * n), "35 1 0 m(3,-1,1,0)");
      decodes(hex(0x0F, 0x94, 0xC3 + 8 * n), "35 1 4 r3");
    }
    for (int c = 0; c < 16; c++) check.due("encode as /0", Check.encode("35 1 " + c + " r11"), hex(0x41, 0x0F, 0x90 + c, 0xC3));
  }

  private static void conditionsAreAdded() {
    check.about("Terms, OPS: 34 IF, 35 SET, 36 CMOVE with c");
    for (int c = 0; c < 16; c++) {
      decodes(hex(0x70 + c, 0x80), "34 0 " + c + " n-128");
      decodes(hex(0x0F, 0x80 + c, 0x80, 0, 0, 0), "34 0 " + c + " n128");
      decodes(hex(0x0F, 0x90 + c, 0x03), "35 1 " + c + " m(3,-1,1,0)");
      decodes(hex(0x0F, 0x40 + c, 0xC3), "36 4 " + c + " r0 r3");
      decodes(hex(0x48, 0x0F, 0x40 + c, 0x03), "36 8 " + c + " r0 m(3,-1,1,0)");
    }
    isNone("0F 3F C3");
    isNone("0F 50 C3");
    isNone("0F 7F 80 00 00 00");
    isNone("0F A0 C3");
    isNone("6F 80");
  }

  /** Bytes with a register of size 1: in a FORM as r, as m, as m with /2 (n), or added to the opcode B0. */
  private static final String[] SIZE_ONE = {
    "00 r", "00 m", "02 r", "02 m", "38 r", "3A m", "80 m 05", "80 n 05", "88 r", "88 m", "8A r", "8A m", "C6 m 05", "84 r",
    "84 m", "86 r", "86 m", "F6 m 05",
    "F6 n", "FE m", "C0 m 05", "D0 m", "D2 m", "0F 90 m", "0F 9F m", "0F C0 r", "0F C0 m", "0F B0 r", "0F B0 m", "B0+ 05",
    "0F B6 m", "0F BE m",
  };

  private static String withRegister(String pattern, int low) {
    String told = pattern.replace("B0+", hex(0xB0 + low)).replace("r", hex(0xC0 + 8 * low));
    return told.replace("m", hex(0xC0 + low)).replace("n", hex(0xD0 + low));
  }

  private static void registersOfSizeOneNeedAPrefix() {
    check.about("Terms, OPS: a register of size 1 with a number 4 .. 7 needs a PREFIX (bytes without are no instruction)");
    for (String pattern : SIZE_ONE) {
      for (int low = 0; low < 8; low++) {
        String hex = withRegister(pattern, low);
        check.due("an instruction in " + hex, !Check.decode(hex).equals("none"), low < 4);
        for (int prefix = 0x40; prefix <= 0x4F; prefix++) {
          boolean high = pattern.contains("r") ? (prefix & 4) != 0 : (prefix & 1) != 0;
          String told = Check.decode(hex(prefix) + " " + hex) + " ";
          String register = " r" + (high ? 8 + low : low) + " ";
          check.due(register + "in " + hex(prefix) + " " + hex + ", which is " + told, told.contains(register), true);
        }
      }
    }
    // A memory's base and index are no registers of size 1, and r is one beside a memory too.
    decodes("88 0C 7E", "8 1 0 m(6,7,2,0) r1");
    decodes("8A 4D 00", "8 1 0 r1 m(5,-1,1,0)");
    decodes("0F B6 0F", "12 4 0 r1 m(7,-1,1,0)");
    decodes("0F 94 04 24", "35 1 4 m(4,-1,1,0)");
    isNone("88 20");
    isNone("8A 38");
    decodes("40 88 20", "8 1 0 m(0,-1,1,0) r4");
  }

  private static void otherRegistersNeedNone() {
    check.about("Terms, OPS: registers of other sizes with a number 4 .. 7 need no PREFIX");
    for (int r = 0; r < 8; r++) {
      for (int m = 0; m < 8; m++) {
        for (String line : M_R) twoRegisters(line, true, "", r, m);
        for (String line : R_M) twoRegisters(line, false, "", r, m);
        decodes(hex(0x69, 0xC0 + 8 * r + m, 5, 0, 0, 0), "23 4 0 r" + r + " r" + m + " n5");
        decodes(hex(0x6B, 0xC0 + 8 * r + m, 5), "23 4 0 r" + r + " r" + m + " n5");
      }
    }
    for (int low = 4; low < 8; low++) {
      decodes(hex(0x81, 0xC0 + low, 5, 0, 0, 0), "0 4 0 r" + low + " n5");
      decodes(hex(0xB8 + low, 5, 0, 0, 0), "8 4 0 r" + low + " n5");
      decodes(hex(0x50 + low), "29 8 0 r" + low);
      decodes(hex(0x8F, 0xC0 + low), "30 8 0 r" + low);
      decodes(hex(0xFF, 0xE0 + low), "31 0 0 r" + low);
      decodes(hex(0xFF, 0xD0 + low), "32 0 0 r" + low);
      decodes(hex(0xF7, 0xD0 + low), "15 4 0 r" + low);
      decodes(hex(0xD3, 0xC0 + low), "24 4 0 r" + low + " r1");
      decodes(hex(0x0F, 0xC8 + low), "46 4 0 r" + low);
    }
  }

  private static void atMostOneOfEach() {
    check.about("Terms, TO DECODE: at most one of each");
    isNone("F3 F3 A4");
    isNone("F3 F3 48 A5");
    for (int prefix = 0x40; prefix <= 0x4F; prefix++) {
      decodes(hex(prefix, 0x90), "39 0 0");
      decodes(hex(0xF3, prefix, 0xA4), "52 1 0");
      for (int second = 0x40; second <= 0x4F; second++) {
        isNone(hex(prefix, second, 0x90));
        isNone(hex(prefix, second, 0x01, 0xC0));
        isNone(hex(0xF3, prefix, second, 0xA4));
      }
    }
  }

  private static void repeatMarkFirst() {
    check.about("Terms, TO DECODE: F3 first");
    for (int prefix = 0x40; prefix <= 0x4F; prefix++) {
      isNone(hex(prefix, 0xF3, 0xA4));
      isNone(hex(prefix, 0xF3, 0xAB));
      isNone(hex(0xF3, prefix, 0xF3, 0xA4));
      decodes(hex(0xF3, prefix, 0xAA), "53 1 0");
    }
  }

  private static void anOpcodeOfTheTableFollows() {
    check.about("Terms, TO DECODE: F3 and a PREFIX as they come, then an opcode");
    for (String hex : new String[] {"", "F3", "F3 48", "48", "40", "4F", "0F", "F3 0F", "48 0F"}) isNone(hex);
    for (String other : new String[] {"26", "2E", "36", "3E", "64", "65", "66", "67", "9B", "F0", "F2"}) {
      isNone(other + " 90");
      isNone(other + " 01 C0");
      isNone(other + " A4");
      isNone("48 " + other + " 01 C0");
      isNone("F3 " + other + " A4");
      isNone(other + " F3 A4");
    }
  }

  private static void unusedBitsCountForNothing() {
    check.about("Terms, TO DECODE: bits of a PREFIX that the rest does not use count for nothing");
    for (int prefix = 0x40; prefix <= 0x4F; prefix++) {
      int v = prefix >= 0x48 ? 8 : 4;
      int r = (prefix & 4) != 0 ? 8 : 0;
      int b = (prefix & 1) != 0 ? 8 : 0;
      String[] none = {"C3|33 0 0", "90|39 0 0", "CC|40 0 0", "0F 0B|41 0 0", "0F 05|42 0 0", "C9|43 0 0", "C2 01 02|33 0 0 n513",
          "EB 05|31 0 0 n5", "E9 05 00 00 00|31 0 0 n5",
        "E8 05 00 00 00|32 0 0 n5", "75 05|34 0 5 n5", "0F 85 05 00 00 00|34 0 5 n5", "6A 05|29 8 0 n5",
        "68 05 00 00 00|29 8 0 n5", "A4|50 1 0", "AA|51 1 0", "04 05|0 1 0 r0 n5",
        "FF 25 05 00 00 00|31 0 0 m(16,-1,1,5)", "FF 35 05 00 00 00|29 8 0 m(16,-1,1,5)",
        "80 0D 05 00 00 00 07|1 1 0 m(16,-1,1,5) n7"};
      for (String line : none) {
        int bar = line.indexOf('|');
        decodes(hex(prefix) + " " + line.substring(0, bar), line.substring(bar + 1));
      }
      decodes(hex(prefix, 0x99), "37 " + v + " 0");
      decodes(hex(prefix, 0xA5), "50 " + v + " 0");
      decodes(hex(prefix, 0x53), "29 8 0 r" + (b + 3));
      decodes(hex(prefix, 0x00, 0xCA), "0 1 0 r" + (b + 2) + " r" + (r + 1));
      decodes(hex(prefix, 0x01, 0xCA), "0 " + v + " 0 r" + (b + 2) + " r" + (r + 1));
      decodes(hex(prefix, 0x89, 0x0A), "8 " + v + " 0 m(" + (b + 2) + ",-1,1,0) r" + (r + 1));
      decodes(hex(prefix, 0xFF, 0xE2), "31 0 0 r" + (b + 2));
      decodes(hex(prefix, 0x0F, 0xCA), "46 " + v + " 0 r" + (b + 2));
    }
  }
}
