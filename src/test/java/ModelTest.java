import java.util.HashMap;
import java.util.Map;

/**
 * Promises 6 and 9 over very many bytes: decode answers as the Model does; of all bytes tried that
 * tell the same fields, encode answers the fewest (the first opcode, then the smallest PREFIX); and
 * whatever the fields, the bytes that encode answers tell just these.
 */
public final class ModelTest {
  private static final int[] TAIL = {0x05, 0x80, 0x7F, 0xFF, 0x00, 0x81, 0x10, 0xFE, 0x01, 0x92, 0x33, 0x44};
  private static final int[] SOME_INDEX_BYTES = {0x00, 0x05, 0x24, 0x25, 0x65, 0x63, 0xE4, 0xED};

  private final Check check = new Check();
  private final Map<String, int[]> best = new HashMap<>();
  private long seed = 20261115L;

  public static void main(String[] args) {
    ModelTest test = new ModelTest();
    test.everyOpcodeAndForm();
    test.everyMemory();
    test.everyNumber();
    test.anyBytes();
    test.encodeAnswersTheFewest();
    test.anyFieldsAreToldOrRefused();
    test.check.end();
  }

  private void everyOpcodeAndForm() {
    for (int prefix = 0x3F; prefix <= 0x4F; prefix++) {
      for (int opcode = 0; opcode < 512; opcode++) {
        for (int form = 0; form < 256; form++) {
          if (form % 8 == 4 && form < 192) {
            for (int index : SOME_INDEX_BYTES) tried(row(prefix, opcode, form, index, TAIL));
          } else {
            tried(row(prefix, opcode, form, -1, TAIL));
          }
        }
      }
    }
  }

  private void everyMemory() {
    int[][] tails = {{0, 0, 0, 0, 9, 9, 9, 9}, {0x7F, 0, 0, 0}, {0x80, 0xFF, 0xFF, 0xFF}, {0x80, 0, 0, 0},
      {0x7F, 0xFF, 0xFF, 0xFF}, {0xFF, 0xFF, 0xFF, 0xFF}, {0, 0, 0, 0x80}};
    for (int opcode : new int[] {0x8D, 0x88, 0x100 + 0xBE, 0xFF}) {
      for (int prefix = 0x3F; prefix <= 0x4F; prefix++) {
        for (int form = 0; form < 256; form++) {
          if (opcode != 0xFF && form / 8 % 8 > 1) continue;
          boolean indexed = form % 8 == 4 && form < 192;
          for (int index = indexed ? 0 : -1; index < (indexed ? 256 : 0); index++) {
            tried(row(prefix, opcode, form, index, tails[(int) (random() % tails.length)]));
            if (opcode == 0x8D) for (int[] tail : tails) tried(row(prefix, opcode, form, index, tail));
          }
        }
      }
    }
  }

  private void everyNumber() {
    long[] numbers = {0, 1, -1, 2, 127, 128, -128, -129, 255, 256, 32767, 32768, 65535, 65536, -32768,
      Integer.MAX_VALUE, Integer.MIN_VALUE, 1L << 31, 0xFFFFFFFFL, 1L << 32, Long.MAX_VALUE, Long.MIN_VALUE};
    for (int prefix : new int[] {0x3F, 0x40, 0x41, 0x48, 0x49}) {
      for (int opcode = 0; opcode < 512; opcode++) {
        for (long number : numbers) {
          int[] tail = new int[8];
          for (int i = 0; i < 8; i++) tail[i] = (int) (number >> 8 * i) & 255;
          tried(row(prefix, opcode, -1, -1, tail));
          for (int digit = 0; digit < 8; digit++) {
            tried(row(prefix, opcode, 0xC0 + 8 * digit, -1, tail));
            tried(row(prefix, opcode, 0xC3 + 8 * digit, -1, tail));
            tried(row(prefix, opcode, 0x06 + 8 * digit, -1, tail));
          }
        }
      }
    }
  }

  private void anyBytes() {
    for (int i = 0; i < 300000; i++) {
      int[] row = new int[(int) (random() % 17)];
      for (int k = 0; k < row.length; k++) row[k] = (int) (random() % 256);
      int kind = (int) (random() % 8);
      if (row.length > 1 && kind < 2) row[0] = kind == 0 ? 0xF3 : 0x48;
      if (row.length > 2 && kind == 2) row[1] = 0x0F;
      tried(row);
    }
    for (int first = 0; first < 256; first++) {
      for (int second = 0; second < 256; second++) {
        tried(new int[] {first, second});
        tried(new int[] {0xF3, first, second});
        tried(new int[] {first, 0xF3, second, 0xA4});
      }
    }
  }

  private int[] row(int prefix, int opcode, int form, int index, int[] tail) {
    int[] row = new int[16];
    int n = 0;
    if (prefix >= 0x40) row[n++] = prefix;
    if (opcode > 255) row[n++] = 0x0F;
    row[n++] = opcode & 255;
    if (form >= 0) row[n++] = form;
    if (index >= 0) row[n++] = index;
    for (int i = 0; i < tail.length && n < row.length; i++) row[n++] = tail[i];
    return row;
  }

  private void tried(int[] row) {
    String want = Model.decode(row);
    String got = Check.decode(row);
    if (!got.equals(want)) check.due("decode of " + Check.hex(row, row.length), got, want);
    if (want.equals("none")) return;
    int colon = want.indexOf(':');
    int length = Integer.parseInt(want.substring(0, colon));
    int[] told = java.util.Arrays.copyOf(row, length);
    best.merge(want.substring(colon + 2), told, ModelTest::better);
  }

  private static int[] better(int[] a, int[] b) {
    int order = Integer.compare(a.length, b.length);
    if (order == 0) order = java.util.Arrays.compare(withoutPrefix(a), withoutPrefix(b));
    if (order == 0) order = java.util.Arrays.compare(a, b);
    return order <= 0 ? a : b;
  }

  private static int[] withoutPrefix(int[] row) {
    int at = row[0] == 0xF3 ? 1 : 0;
    return row[at] >= 0x40 && row[at] <= 0x4F ? java.util.Arrays.copyOfRange(row, at + 1, row.length) : row;
  }

  private void encodeAnswersTheFewest() {
    for (Map.Entry<String, int[]> entry : best.entrySet()) {
      String got = Check.encode(entry.getKey());
      int[] tried = entry.getValue();
      int[] answered = got.equals("none") ? null : Check.bytes(got);
      // Bytes that were never tried may be better than those that were, but must tell the same.
      if (answered == null || better(tried, answered) == tried && !java.util.Arrays.equals(tried, answered)) {
        check.due("encode of " + entry.getKey(), got, Check.hex(tried, tried.length));
      } else {
        check.due("decode of " + got, Model.decode(answered), answered.length + ": " + entry.getKey());
      }
    }
    System.out.println(best.size() + " instructions encoded");
  }

  private void anyFieldsAreToldOrRefused() {
    String[] operands = {"-", "r0", "r1", "r5", "r12", "m(0,-1,1,0)", "m(-1,9,4,1)", "m(16,-1,1,1)", "m(3,-1,2,0)",
      "m(16,1,1,0)", "m(3,4,1,0)", "n0", "n1", "n-1", "n128", "n255", "n256", "n65535", "n65536", "n2147483647",
      "n2147483648", "n-2147483648", "n-2147483649"};
    int told = 0;
    for (int op = -1; op <= 54; op++) {
      for (int size : new int[] {0, 1, 2, 4, 8}) {
        for (int condition : new int[] {-1, 0, 1, 15, 16}) {
          for (String first : operands) {
            for (String second : operands) {
              String third = operands[(int) (random() % operands.length)];
              String head = op + " " + size + " " + condition;
              for (String text : new String[] {head + " " + first + " " + second, head + " " + first + " " + second + " " + third}) {
                told += toldOrRefused(text) ? 1 : 0;
              }
            }
          }
        }
      }
    }
    System.out.println(told + " of any fields are told");
  }

  private boolean toldOrRefused(String text) {
    String bytes = Check.encode(text);
    String fields = text.replaceAll("( -)+$", "");
    if (bytes.equals("none")) {
      if (best.containsKey(fields)) check.due("encode of " + fields, bytes, "bytes");
      return false;
    }
    int[] row = Check.bytes(bytes);
    check.due("decode of " + bytes, Model.decode(row), row.length + ": " + fields);
    return true;
  }

  private long random() {
    seed = seed * 6364136223846793005L + 1442695040888963407L;
    return seed >>> 33;
  }
}
