/**
 * A second decoder, written from the document as one walk over the bytes without a table, so that a
 * slip in the class's table is not repeated here. It answers in the text form of Check.
 */
final class Model {
  private final int[] row;
  private int at = 0;
  private boolean rex = false;
  private boolean w = false;
  private int r = 0;
  private int x = 0;
  private int b = 0;
  private int reg = 0;
  private String memory = null;
  private int low = 0;

  private static final class NoInstruction extends RuntimeException {
    private static final long serialVersionUID = 1L;
  }

  private Model(int[] row) {
    this.row = row;
  }

  static String decode(int[] row) {
    Model model = new Model(row);
    try {
      String text = model.instruction();
      return model.at + ": " + text;
    } catch (NoInstruction e) {
      return "none";
    }
  }

  private static NoInstruction none() {
    return new NoInstruction();
  }

  private int next() {
    if (at >= row.length) throw none();
    return row[at++];
  }

  private long signed(int width) {
    long v = 0;
    for (int i = 0; i < width; i++) v += (long) next() << 8 * i;
    if (width == 1) return (byte) v;
    return width == 4 ? (int) v : v;
  }

  private String instruction() {
    boolean f3 = at < row.length && row[at] == 0xF3;
    if (f3) at++;
    if (at < row.length && row[at] >= 0x40 && row[at] <= 0x4F) {
      int p = next() - 0x40;
      rex = true;
      w = p >= 8;
      r = p / 4 % 2 * 8;
      x = p / 2 % 2 * 8;
      b = p % 2 * 8;
    }
    int o = next();
    if (f3) {
      if (o == 0xA4 || o == 0xA5) return "52 " + size(o % 2) + " 0";
      if (o == 0xAA || o == 0xAB) return "53 " + size(o % 2) + " 0";
      throw none();
    }
    return o == 0x0F ? twoByte(next()) : oneByte(o);
  }

  private int v() {
    return w ? 8 : 4;
  }

  private int size(int bit) {
    return bit == 0 ? 1 : v();
  }

  private String register(int number, int size) {
    if (size == 1 && !rex && number >= 4 && number <= 7) throw none();
    return " r" + number;
  }

  private void form() {
    int f = next();
    int mod = f / 64;
    reg = f / 8 % 8;
    low = f % 8;
    if (mod == 3) return;
    int base = b + low;
    int index = -1;
    int scale = 1;
    boolean four = mod == 2;
    if (low == 4) {
      int s = next();
      if (x + s / 8 % 8 != 4) {
        index = x + s / 8 % 8;
        scale = new int[] {1, 2, 4, 8}[s / 64];
      }
      base = b + s % 8;
      if (mod == 0 && s % 8 == 5) {
        base = -1;
        four = true;
      }
    } else if (mod == 0 && low == 5) {
      base = 16;
      four = true;
    }
    long displacement = four ? signed(4) : mod == 1 ? signed(1) : 0;
    memory = " m(" + base + "," + index + "," + scale + "," + displacement + ")";
  }

  private String m(int size) {
    return memory != null ? memory : register(b + low, size);
  }

  private String rOf(int size) {
    return register(r + reg, size);
  }

  private String mr(int op, int size) {
    form();
    return op + " " + size + " 0" + m(size) + rOf(size);
  }

  private String rm(int op, int size, int sizeOfM) {
    form();
    return op + " " + size + " 0" + rOf(size) + m(sizeOfM);
  }

  private String ib() {
    return " n" + signed(1);
  }

  private String id() {
    return " n" + signed(4);
  }

  private String ub() {
    return " n" + next();
  }

  private String idOrIb(int size) {
    return size == 1 ? ib() : id();
  }

  private String oneByte(int o) {
    if (o < 0x40) {
      int n = o / 8;
      int size = size(o % 2);
      switch (o % 8) {
        case 0: case 1: return mr(n, size);
        case 2: case 3: return rm(n, size, size);
        case 4: case 5: return n + " " + size + " 0 r0" + idOrIb(size);
        default: throw none();
      }
    }
    if (o >= 0x50 && o <= 0x57) return "29 8 0 r" + (b + o - 0x50);
    if (o >= 0x58 && o <= 0x5F) return "30 8 0 r" + (b + o - 0x58);
    if (o >= 0x70 && o <= 0x7F) return "34 0 " + (o - 0x70) + ib();
    if (o >= 0xB0 && o <= 0xB7) return "8 1 0" + register(b + o - 0xB0, 1) + ib();
    if (o >= 0xB8 && o <= 0xBF) return "8 " + v() + " 0 r" + (b + o - 0xB8) + " n" + signed(v());
    switch (o) {
      case 0x63:
        if (!w) throw none();
        return rm(14, 8, 4);
      case 0x68: return "29 8 0" + id();
      case 0x69: return rm(23, v(), v()) + id();
      case 0x6A: return "29 8 0" + ib();
      case 0x6B: return rm(23, v(), v()) + ib();
      case 0x80: case 0x81: {
        form();
        int size = size(o % 2);
        return reg + " " + size + " 0" + m(size) + idOrIb(size);
      }
      case 0x83:
        form();
        return reg + " " + v() + " 0" + m(v()) + ib();
      case 0x84: case 0x85: return mr(9, size(o % 2));
      case 0x86: case 0x87: return mr(10, size(o % 2));
      case 0x88: case 0x89: return mr(8, size(o % 2));
      case 0x8A: case 0x8B: return rm(8, size(o % 2), size(o % 2));
      case 0x8D: {
        String text = rm(11, v(), v());
        if (memory == null) throw none();
        return text;
      }
      case 0x8F:
        form();
        if (reg != 0) throw none();
        return "30 8 0" + m(8);
      case 0x90: return "39 0 0";
      case 0x98: return "38 " + v() + " 0";
      case 0x99: return "37 " + v() + " 0";
      case 0xA4: case 0xA5: return "50 " + size(o % 2) + " 0";
      case 0xA8: case 0xA9: return "9 " + size(o % 2) + " 0 r0" + idOrIb(size(o % 2));
      case 0xAA: case 0xAB: return "51 " + size(o % 2) + " 0";
      case 0xC2: {
        int low = next();
        return "33 0 0 n" + (low + 256 * next());
      }
      case 0xC3: return "33 0 0";
      case 0xC6: case 0xC7: {
        form();
        if (reg != 0) throw none();
        int size = size(o % 2);
        return "8 " + size + " 0" + m(size) + idOrIb(size);
      }
      case 0xC9: return "43 0 0";
      case 0xCC: return "40 0 0";
      case 0xE8: return "32 0 0" + id();
      case 0xE9: return "31 0 0" + id();
      case 0xEB: return "31 0 0" + ib();
      default: return group(o);
    }
  }

  private String group(int o) {
    int size = size(o % 2);
    switch (o) {
      case 0xC0: case 0xC1: return shift(size) + ub();
      case 0xD0: case 0xD1: return shift(size) + " n1";
      case 0xD2: case 0xD3: return shift(size) + " r1";
      case 0xF6: case 0xF7:
        form();
        if (reg == 1) throw none();
        if (reg == 0) return "9 " + size + " 0" + m(size) + idOrIb(size);
        return 13 + reg + " " + size + " 0" + m(size);
      case 0xFE: case 0xFF:
        form();
        if (reg < 2) return 21 + reg + " " + size + " 0" + m(size);
        if (o == 0xFE) throw none();
        if (reg == 2) return "32 0 0" + m(8);
        if (reg == 4) return "31 0 0" + m(8);
        if (reg == 6) return "29 8 0" + m(8);
        throw none();
      default: throw none();
    }
  }

  private String shift(int size) {
    form();
    int op = new int[] {24, 25, -1, -1, 26, 27, -1, 28}[reg];
    if (op < 0) throw none();
    return op + " " + size + " 0" + m(size);
  }

  private String twoByte(int o) {
    if (o >= 0x40 && o <= 0x4F) {
      form();
      return "36 " + v() + " " + (o - 0x40) + rOf(v()) + m(v());
    }
    if (o >= 0x80 && o <= 0x8F) return "34 0 " + (o - 0x80) + id();
    if (o >= 0x90 && o <= 0x9F) {
      form();
      return "35 1 " + (o - 0x90) + m(1);
    }
    if (o >= 0xC8 && o <= 0xCF) return "46 " + v() + " 0 r" + (b + o - 0xC8);
    switch (o) {
      case 0x05: return "42 0 0";
      case 0x0B: return "41 0 0";
      case 0xA3: return mr(47, v());
      case 0xAF: return rm(23, v(), v());
      case 0xB0: case 0xB1: return mr(49, size(o % 2));
      case 0xB6: return rm(12, v(), 1);
      case 0xBA:
        form();
        if (reg != 4) throw none();
        return "47 " + v() + " 0" + m(v()) + ub();
      case 0xBC: return rm(44, v(), v());
      case 0xBD: return rm(45, v(), v());
      case 0xBE: return rm(13, v(), 1);
      case 0xC0: case 0xC1: return mr(48, size(o % 2));
      default: throw none();
    }
  }
}
