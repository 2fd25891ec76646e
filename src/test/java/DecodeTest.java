/** Promise 9: the fields of bytes that encode would not choose, and bytes that are no instruction. */
public final class DecodeTest {
  private static final Check check = new Check();

  /** Bytes, then their length and fields. */
  private static final String[] LONGER_BYTES = {
    // Bits of a PREFIX that nothing uses.
    "4F 90", "2: 39 0 0", "4F CC", "2: 40 0 0", "40 01 D8", "3: 0 4 0 r0 r3", "4E 00 D8", "3: 0 1 0 r0 r11",
    "48 00 D8", "3: 0 1 0 r0 r3", "44 81 C3 01 00 00 00", "7: 0 4 0 r3 n1", "4E 53", "2: 29 8 0 r3", "4F 53", "2: 29 8 0 r11",
    "4E F7 D2", "3: 15 8 0 r2", "46 8D 03", "3: 11 4 0 r8 m(3,-1,1,0)", "4F A4", "2: 50 1 0", "F3 4F AB", "3: 53 8 0",
    "F3 47 A5", "3: 52 4 0", "4F 0F 9F E5", "4: 35 1 15 r13", "48 FF E0", "3: 31 0 0 r0", "48 B0 FF", "3: 8 1 0 r0 n-1",
    "4F 0F 05", "3: 42 0 0", "4F EB FE", "3: 31 0 0 n-2", "4F 04 FF", "3: 0 1 0 r0 n-1", "4C 05 FF FF FF 7F", "6: 0 8 0 r0 n2147483647",
    // The FORM's memory with B, X and the INDEX BYTE.
    "41 8D 05 00 00 00 80", "7: 11 4 0 r0 m(16,-1,1,-2147483648)", "43 8D 04 25 01 00 00 00", "8: 11 4 0 r0 m(-1,12,1,1)",
    "41 8D 04 25 01 00 00 00", "8: 11 4 0 r0 m(-1,-1,1,1)", "8D 04 E5 00 00 00 00", "7: 11 4 0 r0 m(-1,-1,1,0)",
    "8D 04 E3", "3: 11 4 0 r0 m(3,-1,1,0)", "8D 04 63", "3: 11 4 0 r0 m(3,-1,1,0)", "42 8D 04 63", "4: 11 4 0 r0 m(3,12,2,0)",
    "8D 43 00", "3: 11 4 0 r0 m(3,-1,1,0)", "8D 83 00 00 00 00", "6: 11 4 0 r0 m(3,-1,1,0)", "8D 44 23 80", "4: 11 4 0 r0 m(3,-1,1,-128)",
    "8D 44 25 FF", "4: 11 4 0 r0 m(5,-1,1,-1)", "8D 84 65 FF 00 00 00", "7: 11 4 0 r0 m(5,-1,1,255)", "41 8D 44 ED 01", "5: 11 4 0 r0 m(13,5,8,1)",
    // Lines and FORMs that encode does not choose.
    "03 D8", "2: 0 4 0 r3 r0", "8A C1", "2: 8 1 0 r0 r1", "81 C0 01 00 00 00", "6: 0 4 0 r0 n1", "80 C0 FF", "3: 0 1 0 r0 n-1",
    "05 01 00 00 00", "5: 0 4 0 r0 n1", "C7 C0 FF FF FF FF", "6: 8 4 0 r0 n-1", "48 B8 01 00 00 00 00 00 00 00", "10: 8 8 0 r0 n1",
    "F6 C0 80", "3: 9 1 0 r0 n-128", "69 C1 FF FF FF FF", "6: 23 4 0 r0 r1 n-1", "C1 E0 01", "3: 26 4 0 r0 n1", "C0 E0 80", "3: 26 1 0 r0 n128",
    "FF F3", "2: 29 8 0 r3", "FF F4", "2: 29 8 0 r4", "8F C3", "2: 30 8 0 r3", "68 FF FF FF FF", "5: 29 8 0 n-1", "E9 00 00 00 00", "5: 31 0 0 n0",
    "0F 80 00 00 00 00", "6: 34 0 0 n0", "0F 90 F8", "3: 35 1 0 r0", "0F 95 38", "3: 35 1 5 m(0,-1,1,0)", "0F BA E0 FF", "4: 47 4 0 r0 n255",
    "C2 00 80", "3: 33 0 0 n32768", "BB FF FF FF FF", "5: 8 4 0 r3 n-1",
    // What stands behind an instruction counts for nothing.
    "90 06 06", "1: 39 0 0", "C3 C3", "1: 33 0 0", "00 00 00 00 00 00 00 00 00 00 00 00 00 00 00 00", "2: 0 1 0 m(0,-1,1,0) r0",
  };

  private static final String[] NO_INSTRUCTION = {
    "", "06", "07", "0E 00", "26 90", "2F", "3F", "60", "62 00", "64 90", "66 90", "67 90", "82 C0 01", "8C C0", "8E C0", "91", "9A", "9C", "A0", "A6", "AC",
    "C4 00", "C8 00 00 00", "CD 80", "CF", "D4 00", "D8 C0", "E0 00", "E4 00", "EA", "EC", "F0 90", "F1", "F2 A4", "F4", "F8", "FC",
    "0F 00 00", "0F 0F 00", "0F 1F 00", "0F 31", "0F A2", "0F AB C0", "0F B2 00", "0F B7 C0", "0F BF C0", "0F BB C0", "0F C2 C0 00", "0F C7 C8",
    // F3 and PREFIX.
    "F3", "F3 90", "F3 C3", "F3 F3 A4", "F3 40", "48 F3 A4", "F3 48 48 A5", "48 48 90", "40 41 01 C0", "F3 0F BC C0", "F3 01 C0", "40", "4F",
    // WIDEN without W, M with a register, /n that no line has.
    "63 C1", "47 63 C1", "8D C0", "48 8D FF", "8F C8", "8F 38", "C6 C8 00", "C7 F8 00 00 00 00", "F6 C8 00", "F7 C8 00 00 00 00", "FE D0", "FE F0",
    "FF D8", "FF E8", "FF F8", "C0 D0 01", "C0 D8 01", "C1 F0 01", "D0 D0", "D1 D8", "D2 F0", "D3 D0", "0F BA C0 00", "0F BA E8 00", "0F BA F8 00",
    // Registers of size 1 with the numbers 4 .. 7 without a PREFIX.
    "00 E0", "00 C4", "02 E0", "8A C7", "88 20", "80 C4 01", "C6 C5 01", "B4 01", "B7 01", "84 E0", "86 C6", "F6 D4", "FE C4", "C0 E4 01", "D0 E5", "D2 E6",
    "0F B6 C4", "0F BE C7", "0F 90 C4", "0F 9F E7", "0F C0 E0", "0F B0 C5", "F6 C4 01",
    // Too few bytes.
    "0F", "48", "48 0F", "01", "01 04", "01 44", "01 44 24", "01 84 24 00 00 00", "01 05 00 00 00", "01 04 25 00 00 00", "01 43", "01 83 00 00 00",
    "05", "05 00 00 00", "04", "80", "80 C0", "81 C0 00 00 00", "83 C0", "B0", "B8 00 00 00", "48 B8 00 00 00 00 00 00 00", "C2 00", "C2", "68 00 00 00",
    "6A", "69 C0 00 00 00", "6B C0", "E8 00 00 00", "E9 00 00 00", "EB", "70", "0F 80 00 00 00", "0F 90", "0F BA", "0F BA E0", "C0 E0", "D0", "FF", "F6", "F6 C0",
    "0F C0", "0F 40", "63", "48 63", "8D", "8F",
  };

  public static void main(String[] args) {
    for (int i = 0; i < LONGER_BYTES.length; i += 2) {
      check.due("decode of " + LONGER_BYTES[i], Check.decode(Check.bytes(LONGER_BYTES[i])), LONGER_BYTES[i + 1]);
    }
    for (String bytes : NO_INSTRUCTION) isNoInstruction(bytes);
    registersWithAPrefix();
    decodeSetsEveryField();
    check.end();
  }

  private static void isNoInstruction(String bytes) {
    InstructionCoder x = new InstructionCoder();
    Check.set(x, "23 8 0 r9 m(3,2,4,7) n11");
    Check.encoded(x);
    Check.feed(x, Check.bytes(bytes));
    check.due("decode of '" + bytes + "'", Check.decoded(x), "none");
    check.due("fields after it", Check.fields(x), "23 8 0 r9 m(3,2,4,7) n11");
    check.due("bytes after it", Check.octets(x, 6), "4C 6B 4C 93 07 0B");
    x.feed(0xC3, 1);
    check.due("decode after '" + bytes + "'", Check.decoded(x), "1: 33 0 0");
  }

  private static void registersWithAPrefix() {
    for (int register = 0; register < 16; register++) {
      String prefix = register < 8 ? "40 " : "41 ";
      String form = String.format("%02X", 0xC0 + register % 8);
      check.due("size 1", Check.decode(Check.bytes(prefix + "F6 " + form + " 01")), "4: 9 1 0 r" + register + " n1");
      String opcode = String.format("%02X", 0xB0 + register % 8);
      check.due("+r", Check.decode(Check.bytes(prefix + opcode + " 01")), "3: 8 1 0 r" + register + " n1");
    }
  }

  private static void decodeSetsEveryField() {
    InstructionCoder x = new InstructionCoder();
    Check.set(x, "23 8 0 r9 m(3,2,4,7) n11");
    x.feed(0x0F94C0, 3);
    check.due("decode", Check.decoded(x), "3: 35 1 4 r0");
    x.feed(0xD1E0, 2);
    check.due("decode", Check.decoded(x), "2: 26 4 0 r0 n1");
    x.feed(0x8D44C810L, 4);
    check.due("decode", Check.decoded(x), "4: 11 4 0 r0 m(0,1,8,16)");
    x.feed(0xC3, 1);
    check.due("decode", Check.decoded(x), "1: 33 0 0");
  }
}
