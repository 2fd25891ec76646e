/** Promise 6: the bytes of fields line by line of the table, its edges, and fields that have none. */
public final class EncodeTest {
  private static final Check check = new Check();

  /** Fields, then their bytes. */
  private static final String[] BOTH_WAYS = {
    "0 1 0 r0 r3", "00 D8", "0 4 0 r0 r3", "01 D8", "0 8 0 r8 r1", "49 01 C8", "0 8 0 r1 r8", "4C 01 C1",
    "0 1 0 r3 m(0,-1,1,0)", "02 18", "0 4 0 r3 m(0,-1,1,0)", "03 18", "0 1 0 r0 n127", "04 7F",
    "0 4 0 r0 n128", "05 80 00 00 00", "0 1 0 r3 n-128", "80 C3 80", "0 4 0 r3 n128", "81 C3 80 00 00 00",
    "0 4 0 r3 n127", "83 C3 7F", "0 8 0 r3 n-128", "48 83 C3 80", "0 8 0 r3 n-129", "48 81 C3 7F FF FF FF",
    "0 1 0 m(3,-1,1,0) n1", "80 03 01", "0 8 0 m(11,-1,1,0) n1", "49 83 03 01",
    "1 4 0 r1 r2", "09 D1", "2 4 0 r1 r2", "11 D1", "3 4 0 r1 r2", "19 D1", "4 4 0 r1 r2", "21 D1",
    "5 4 0 r1 r2", "29 D1", "6 4 0 r1 r2", "31 D1", "7 4 0 r1 r2", "39 D1", "7 1 0 r0 n-1", "3C FF",
    "7 8 0 r0 n-2147483648", "48 3D 00 00 00 80", "6 4 0 r15 n2147483647", "41 81 F7 FF FF FF 7F",
    "8 4 0 r1 r2", "89 D1", "8 1 0 r1 m(2,-1,1,0)", "8A 0A", "8 1 0 m(2,-1,1,0) n-1", "C6 02 FF",
    "8 4 0 m(2,-1,1,0) n-1", "C7 02 FF FF FF FF", "8 1 0 r3 n5", "B3 05", "8 4 0 r3 n5", "BB 05 00 00 00",
    "8 8 0 r3 n5", "48 C7 C3 05 00 00 00", "8 8 0 r11 n2147483648", "49 BB 00 00 00 80 00 00 00 00",
    "8 8 0 r0 n-2147483649", "48 B8 FF FF FF 7F FF FF FF FF", "8 1 0 r12 n5", "41 B4 05",
    "9 4 0 r1 r2", "85 D1", "9 1 0 r0 n3", "A8 03", "9 8 0 r0 n3", "48 A9 03 00 00 00",
    "9 1 0 r1 n3", "F6 C1 03", "9 4 0 r1 n3", "F7 C1 03 00 00 00", "10 4 0 r0 r0", "87 C0",
    "10 1 0 m(0,-1,1,0) r2", "86 10", "11 8 0 r2 m(0,-1,1,0)", "48 8D 10",
    "12 4 0 r2 r3", "0F B6 D3", "13 8 0 r2 m(3,-1,1,0)", "48 0F BE 13", "14 8 0 r2 r3", "48 63 D3",
    "14 8 0 r4 r5", "48 63 E5", "15 4 0 r2", "F7 D2", "16 4 0 r2", "F7 DA", "17 4 0 r2", "F7 E2",
    "18 4 0 r2", "F7 EA", "19 4 0 r2", "F7 F2", "20 1 0 r2", "F6 FA", "21 4 0 r2", "FF C2", "22 1 0 r2", "FE CA",
    "23 4 0 r1 r2", "0F AF CA", "23 4 0 r1 r2 n127", "6B CA 7F", "23 4 0 r1 r2 n128", "69 CA 80 00 00 00",
    "23 8 0 r9 m(10,-1,1,0) n-1", "4D 6B 0A FF", "24 4 0 r1 n2", "C1 C1 02", "25 4 0 r1 n2", "C1 C9 02",
    "26 4 0 r1 n255", "C1 E1 FF", "27 1 0 r1 n0", "C0 E9 00", "28 8 0 r9 n128", "49 C1 F9 80",
    "24 1 0 r1 n1", "D0 C1", "28 4 0 m(1,-1,1,0) n1", "D1 39", "26 4 0 r1 r1", "D3 E1", "27 1 0 r2 r1", "D2 EA",
    "29 8 0 r3", "53", "29 8 0 r11", "41 53", "29 8 0 n127", "6A 7F", "29 8 0 n128", "68 80 00 00 00",
    "29 8 0 m(3,-1,1,0)", "FF 33", "30 8 0 r4", "5C", "30 8 0 r12", "41 5C", "30 8 0 m(12,-1,1,0)", "41 8F 04 24",
    "31 0 0 n-128", "EB 80", "31 0 0 n-129", "E9 7F FF FF FF", "31 0 0 r4", "FF E4", "31 0 0 m(16,-1,1,1)", "FF 25 01 00 00 00",
    "32 0 0 n0", "E8 00 00 00 00", "32 0 0 r8", "41 FF D0", "33 0 0", "C3", "33 0 0 n0", "C2 00 00",
    "33 0 0 n65535", "C2 FF FF", "34 0 0 n5", "70 05", "34 0 15 n128", "0F 8F 80 00 00 00",
    "35 1 4 r0", "0F 94 C0", "35 1 15 m(0,-1,1,0)", "0F 9F 00", "36 8 3 r9 r1", "4C 0F 43 C9",
    "37 4 0", "99", "37 8 0", "48 99", "38 4 0", "98", "38 8 0", "48 98", "39 0 0", "90", "40 0 0", "CC",
    "41 0 0", "0F 0B", "42 0 0", "0F 05", "43 0 0", "C9", "44 4 0 r1 r2", "0F BC CA", "45 4 0 r1 r2", "0F BD CA",
    "46 4 0 r3", "0F CB", "46 8 0 r15", "49 0F CF", "47 4 0 r1 r2", "0F A3 D1", "47 8 0 r1 n255", "48 0F BA E1 FF",
    "48 1 0 r1 r2", "0F C0 D1", "48 8 0 r1 r2", "48 0F C1 D1", "49 1 0 r1 r2", "0F B0 D1", "49 4 0 r1 r2", "0F B1 D1",
    "50 1 0", "A4", "50 4 0", "A5", "50 8 0", "48 A5", "51 1 0", "AA", "51 4 0", "AB", "51 8 0", "48 AB",
    "52 1 0", "F3 A4", "52 4 0", "F3 A5", "52 8 0", "F3 48 A5", "53 1 0", "F3 AA", "53 4 0", "F3 AB", "53 8 0", "F3 48 AB",
    // Registers of size 1 with the numbers 4 .. 7 need a PREFIX, others do not.
    "0 1 0 r4 r0", "40 00 C4", "0 1 0 r0 r7", "40 00 F8", "0 1 0 r3 r3", "00 DB", "0 1 0 r8 r4", "41 00 E0",
    "0 4 0 r4 r7", "01 FC", "12 4 0 r4 r3", "0F B6 E3", "12 4 0 r3 r4", "40 0F B6 DC", "13 4 0 r0 r7", "40 0F BE C7",
    "12 4 0 r0 m(4,-1,1,0)", "0F B6 04 24", "8 1 0 r5 n0", "40 B5 00", "35 1 0 r6", "40 0F 90 C6",
    "15 1 0 r5", "40 F6 D5", "24 1 0 r7 r1", "40 D2 C7", "8 1 0 m(6,7,2,0) r1", "88 0C 7E", "8 1 0 r6 m(0,-1,1,0)", "40 8A 30",
    // The memory.
    "11 4 0 r0 m(3,-1,1,0)", "8D 03", "11 4 0 r0 m(4,-1,1,0)", "8D 04 24", "11 4 0 r0 m(12,-1,1,0)", "41 8D 04 24",
    "11 4 0 r0 m(5,-1,1,0)", "8D 45 00", "11 4 0 r0 m(13,-1,1,0)", "41 8D 45 00", "11 4 0 r0 m(3,-1,1,127)", "8D 43 7F",
    "11 4 0 r0 m(3,-1,1,-128)", "8D 43 80", "11 4 0 r0 m(3,-1,1,128)", "8D 83 80 00 00 00",
    "11 4 0 r0 m(3,-1,1,-129)", "8D 83 7F FF FF FF", "11 4 0 r0 m(16,-1,1,0)", "8D 05 00 00 00 00",
    "11 4 0 r0 m(-1,-1,1,0)", "8D 04 25 00 00 00 00", "11 4 0 r0 m(-1,3,1,5)", "8D 04 1D 05 00 00 00",
    "11 4 0 r0 m(-1,5,8,0)", "8D 04 ED 00 00 00 00", "11 4 0 r0 m(-1,12,4,-1)", "42 8D 04 A5 FF FF FF FF",
    "11 4 0 r0 m(5,1,1,0)", "8D 44 0D 00", "11 4 0 r0 m(13,1,2,0)", "41 8D 44 4D 00", "11 4 0 r0 m(4,5,1,0)", "8D 04 2C",
    "11 4 0 r0 m(3,12,8,0)", "42 8D 04 E3", "11 8 0 r15 m(15,15,8,2147483647)", "4F 8D BC FF FF FF FF 7F",
    "11 4 0 r0 m(4,-1,1,-2147483648)", "8D 84 24 00 00 00 80", "11 4 0 r0 m(4,-1,1,1)", "8D 44 24 01",
    "0 8 0 m(8,9,2,1000000) n1000000", "4B 81 84 48 40 42 0F 00 40 42 0F 00",
  };

  private static final String[] NO_BYTES = {
    // Ops, sizes and conditions that no line has.
    "-1 0 0", "54 0 0", "2147483647 0 0", "-2147483648 0 0", "39 1 0", "39 4 0", "39 8 0", "39 -1 0", "39 0 1", "39 0 -1",
    "0 0 0 r1 r2", "0 2 0 r1 r2", "0 3 0 r1 r2", "0 16 0 r1 r2", "0 4 1 r1 r2", "11 1 0 r0 m(0,-1,1,0)", "12 1 0 r1 r2",
    "14 4 0 r1 r2", "23 1 0 r1 r2", "29 4 0 r1", "29 0 0 r1", "31 8 0 r1", "32 8 0 r1", "33 8 0", "34 0 16 n0", "34 0 -1 n0",
    "34 4 0 n0", "35 0 0 r1", "35 4 0 r1", "35 1 16 r1", "36 1 0 r1 r2", "36 4 -1 r1 r2", "37 0 0", "37 1 0", "46 1 0 r1",
    "47 1 0 r1 r2", "50 0 0", "52 0 0", "43 8 0", "44 1 0 r1 r2", "36 4 16 r1 r2", "34 0 2147483647 n0",
    // Operands that no line has.
    "39 0 0 r0", "39 0 0 - r0", "39 0 0 - - n0", "0 4 0", "0 4 0 r1", "0 4 0 - r1 r2", "0 4 0 r1 r2 r3", "0 4 0 n1 r1", "0 4 0 r1 r2 n1",
    "0 4 0 r1 - r2", "8 4 0 m(0,-1,1,0) m(0,-1,1,0)", "10 4 0 r1 m(0,-1,1,0)", "10 4 0 r1 n1", "11 4 0 r1 r2", "11 4 0 m(0,-1,1,0) r1",
    "12 4 0 m(0,-1,1,0) r1", "9 4 0 r1 m(0,-1,1,0)", "15 4 0", "15 4 0 n1", "23 4 0 r1", "23 4 0 m(0,-1,1,0) r1", "23 4 0 r1 n5",
    "24 4 0 r1 r2", "24 4 0 r1 r0", "24 4 0 r1", "26 4 0 r1 m(0,-1,1,0)", "30 8 0 n1", "33 0 0 r1", "34 0 1 r1", "34 0 1", "35 1 1 n1",
    "36 4 1 m(0,-1,1,0) r1", "46 4 0 m(0,-1,1,0)", "48 4 0 r1 m(0,-1,1,0)", "47 4 0 r1 m(0,-1,1,0)", "50 1 0 r1", "32 0 0",
    "23 4 0 r1 n5 r2", "23 4 0 r1 r2 r3", "29 8 0", "29 8 0 r1 r1",
    // Numbers that do not fit.
    "0 1 0 r0 n128", "0 1 0 r0 n-129", "0 1 0 r3 n255", "0 4 0 r0 n2147483648", "0 4 0 r3 n4294967295", "0 8 0 r3 n-2147483649",
    "8 1 0 r3 n128", "8 4 0 r3 n2147483648", "8 8 0 m(0,-1,1,0) n2147483648", "9 1 0 r1 n200", "23 4 0 r1 r2 n2147483648",
    "24 4 0 r1 n256", "24 4 0 r1 n-1", "47 4 0 r1 n256", "47 4 0 r1 n-1", "33 0 0 n65536", "33 0 0 n-1", "29 8 0 n2147483648",
    "31 0 0 n-2147483649", "32 0 0 n2147483648", "34 0 1 n2147483648", "29 8 0 n9223372036854775807",
    // Memories that there are not.
    "11 4 0 r0 m(17,-1,1,0)", "11 4 0 r0 m(-2,-1,1,0)", "11 4 0 r0 m(2147483647,-1,1,0)", "11 4 0 r0 m(-2147483648,-1,1,0)",
    "11 4 0 r0 m(0,4,1,0)", "11 4 0 r0 m(0,16,1,0)", "11 4 0 r0 m(0,-2,1,0)", "11 4 0 r0 m(0,2147483647,1,0)",
    "11 4 0 r0 m(0,1,0,0)", "11 4 0 r0 m(0,1,3,0)", "11 4 0 r0 m(0,1,16,0)", "11 4 0 r0 m(0,1,-1,0)",
    "11 4 0 r0 m(0,-1,2,0)", "11 4 0 r0 m(0,-1,0,0)", "11 4 0 r0 m(-1,-1,8,0)", "11 4 0 r0 m(16,-1,2,0)", "11 4 0 r0 m(16,0,1,0)",
    "8 4 0 m(0,4,2,0) r1", "15 4 0 m(0,-1,4,0)", "29 8 0 m(16,1,1,0)",
  };

  public static void main(String[] args) {
    for (int i = 0; i < BOTH_WAYS.length; i += 2) {
      String fields = BOTH_WAYS[i];
      String bytes = BOTH_WAYS[i + 1];
      int count = Check.bytes(bytes).length;
      check.due("encode of " + fields, Check.encode(fields), bytes);
      check.due("decode of " + bytes, Check.decode(Check.bytes(bytes)), count + ": " + fields);
    }
    for (String fields : NO_BYTES) hasNoBytes(fields);
    encodeLeavesTheFields();
    onlyTheMemoryAsked();
    check.end();
  }

  private static void hasNoBytes(String fields) {
    InstructionCoder x = new InstructionCoder();
    Check.encoded(x);
    Check.set(x, fields);
    String before = Check.fields(x);
    check.due("encode of " + fields, Check.encoded(x), "none");
    check.due("fields after it", Check.fields(x), before);
    check.due("bytes after it", Check.octets(x, 1) + " " + x.octet(1), "90 -1");
  }

  private static void encodeLeavesTheFields() {
    InstructionCoder x = new InstructionCoder();
    Check.set(x, "23 8 0 r9 m(3,2,4,7) n11");
    check.due("encode", Check.encoded(x), "4C 6B 4C 93 07 0B");
    check.due("fields after encode", Check.fields(x), "23 8 0 r9 m(3,2,4,7) n11");
    check.due("encode again", Check.encoded(x), "4C 6B 4C 93 07 0B");
  }

  private static void onlyTheMemoryAsked() {
    InstructionCoder x = new InstructionCoder();
    x.memory(77, 4, 5, 1);
    x.op(0, 4, 0);
    x.operand(0, 1, 1);
    x.operand(1, 1, 2);
    check.due("encode with an unused memory", Check.encoded(x), "01 D1");
    x.operand(1, 2, 0);
    check.due("encode with that memory", Check.encoded(x), "none");
    x.memory(7, -1, 1, 0);
    check.due("encode with another", Check.encoded(x), "03 0F");
  }
}
