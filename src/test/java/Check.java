/** What the tests share: instructions and bytes as texts, and the count of wrong answers. */
final class Check {
  private static final int FIRST_OPERAND = 3;
  private static final String HEX = "0123456789ABCDEF";
  private static final int TOLD_OF_A_SENTENCE = 20;
  private int wrong = 0;
  private int wrongOfSentence = 0;
  private String sentence = "";

  /** The document's sentence that the answers from here on hold to, told before each wrong one. */
  void about(String promiseOrTerm) {
    sentence = promiseOrTerm + " | ";
    wrongOfSentence = 0;
  }

  void due(String call, Object got, Object want) {
    boolean same = got == null ? want == null : got.equals(want);
    if (!same) {
      wrong++;
      wrongOfSentence++;
      if (wrongOfSentence <= TOLD_OF_A_SENTENCE) System.out.println(sentence + call + " answered " + got + ", due is " + want);
    }
  }

  void end() {
    System.out.println(wrong == 0 ? "all answers are as due" : wrong + " answers are not as due");
    if (wrong != 0) System.exit(1);
  }

  static int[] bytes(String hex) {
    if (hex.isEmpty()) return new int[0];
    String[] parts = hex.split(" ");
    int[] row = new int[parts.length];
    for (int i = 0; i < row.length; i++) row[i] = Integer.parseInt(parts[i], 16);
    return row;
  }

  /** The bytes in hexadecimal; what is no byte stands behind a question mark. */
  static String hex(int[] row, int count) {
    StringBuilder text = new StringBuilder();
    for (int i = 0; i < count; i++) {
      if (i > 0) text.append(' ');
      if (row[i] < 0 || row[i] > 255) text.append('?').append(row[i]);
      else text.append(HEX.charAt(row[i] >> 4)).append(HEX.charAt(row[i] & 15));
    }
    return text.toString();
  }

  static void feed(InstructionCoder x, int[] row) {
    for (int b : row) x.feed(b, 1);
  }

  /** "op size condition" and the operands: r3, m(base,index,scale,displacement), n5, or - for none. */
  static void set(InstructionCoder x, String text) {
    String[] parts = text.split(" ");
    x.op(Integer.parseInt(parts[0]), Integer.parseInt(parts[1]), Integer.parseInt(parts[2]));
    for (int i = FIRST_OPERAND; i < parts.length; i++) setOperand(x, i - FIRST_OPERAND, parts[i]);
  }

  private static void setOperand(InstructionCoder x, int k, String part) {
    String rest = part.substring(1);
    if (part.charAt(0) == 'r') {
      x.operand(k, 1, Integer.parseInt(rest));
    } else if (part.charAt(0) == 'm') {
      String[] m = rest.substring(1, rest.length() - 1).split(",");
      x.memory(Integer.parseInt(m[0]), Integer.parseInt(m[1]), Integer.parseInt(m[2]), Integer.parseInt(m[3]));
      x.operand(k, 2, 0);
    } else if (part.charAt(0) == 'n') {
      x.number(Long.parseLong(rest));
      x.operand(k, 3, 0);
    }
  }

  /** The fields in the same form; fields that must be at rest and are not are told behind it. */
  static String fields(InstructionCoder x) {
    StringBuilder text = new StringBuilder();
    text.append(x.field(0)).append(' ').append(x.field(1)).append(' ').append(x.field(2));
    int last = -1;
    for (int k = 0; k < 3; k++) if (x.field(3 + 2 * k) != 0) last = k;
    boolean memory = false;
    boolean number = false;
    for (int k = 0; k <= last; k++) {
      int kind = x.field(3 + 2 * k);
      memory |= kind == 2;
      number |= kind == 3;
      text.append(' ').append(operand(x, k, kind));
      if (kind != 1 && x.field(4 + 2 * k) != 0) text.append("!register");
    }
    if (!memory && !memory(x).equals("m(-1,-1,1,0)")) text.append(" !").append(memory(x));
    if (!number && x.value() != 0) text.append(" !n").append(x.value());
    return text.toString();
  }

  private static String operand(InstructionCoder x, int k, int kind) {
    if (kind == 1) return "r" + x.field(4 + 2 * k);
    if (kind == 2) return memory(x);
    return kind == 3 ? "n" + x.value() : "-";
  }

  private static String memory(InstructionCoder x) {
    return "m(" + x.field(9) + "," + x.field(10) + "," + x.field(11) + "," + x.field(12) + ")";
  }

  /** What encode answers, or 0 if it throws: a count that no instruction has. */
  static int encodedCount(InstructionCoder x) {
    try {
      return x.encode();
    } catch (IllegalArgumentException e) {
      return 0;
    }
  }

  /** What decode answers, or 0 if it throws. */
  static int decodedCount(InstructionCoder x) {
    try {
      return x.decode();
    } catch (IllegalArgumentException e) {
      return 0;
    }
  }

  /** The bytes of encode, or "none" if it throws what the document says. */
  static String encoded(InstructionCoder x) {
    int count;
    try {
      count = x.encode();
    } catch (IllegalArgumentException e) {
      return thrown(e);
    }
    return octets(x, count);
  }

  private static String thrown(IllegalArgumentException e) {
    // A class below IllegalArgumentException is not the one that the document names.
    return e.getClass() == IllegalArgumentException.class ? "none" : e.getClass().getName();
  }

  static String octets(InstructionCoder x, int count) {
    int[] row = new int[count];
    for (int i = 0; i < count; i++) row[i] = x.octet(i);
    return hex(row, count);
  }

  static String encode(String text) {
    InstructionCoder x = new InstructionCoder();
    set(x, text);
    return encoded(x);
  }

  /** The fields that decode finds in the bytes of encode; "none" if there are none such. */
  static String thereAndBack(String text) {
    String bytes = encode(text);
    if (bytes.equals("none") || bytes.contains("?")) return bytes;
    int[] row = bytes(bytes);
    String back = decode(row);
    String length = row.length + ": ";
    return back.startsWith(length) ? back.substring(length.length()) : back + " of " + bytes;
  }

  /** "length: fields" of bytes, or "none" if decode throws what the document says. */
  static String decode(int[] row) {
    InstructionCoder x = new InstructionCoder();
    feed(x, row);
    return decoded(x);
  }

  static String decode(String hex) {
    return decode(bytes(hex));
  }

  static String decoded(InstructionCoder x) {
    int length;
    try {
      length = x.decode();
    } catch (IllegalArgumentException e) {
      return thrown(e);
    }
    return length + ": " + fields(x);
  }
}
