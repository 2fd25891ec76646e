/**
 * Instructions of a processor of 64 bits as fields, and as bytes: the shortest bytes for fields,
 * and the fields of any bytes.
 */
public final class InstructionCoder {
    private static final int KIND_NONE = 0;
    private static final int KIND_REGISTER = 1;
    private static final int KIND_MEMORY = 2;
    private static final int KIND_NUMBER = 3;

    private static final int OPERANDS = 3;
    private static final int LAST_REGISTER = 15;
    private static final int LAST_CONDITION = 15;
    private static final int OP_NOP = 39;

    private static final int ABSENT = -1;
    private static final int NEXT_ADDRESS = 16;

    private static final int REPEAT_MARK = 0xF3;
    private static final int PREFIX = 0x40;
    private static final int PREFIX_W = 8;
    private static final int PREFIX_R = 4;
    private static final int PREFIX_X = 2;
    private static final int PREFIX_B = 1;
    private static final int SECOND_PAGE = 0x0F;

    private final Fields fields;
    private final Octets encoded;
    private final Octets attempt;
    private final Writer writer;
    private final Octets fed;
    private final Reader reader;

    public InstructionCoder() {
        writer = new Writer();
        fields = writer.from;
        attempt = writer.out;
        encoded = new Octets();
        reader = new Reader();
        fed = reader.in;
    }

    public void op(int op, int size, int condition) {
        fields.begin(op, size, condition);
    }

    public boolean operand(int k, int kind, int register) {
        if (k < 0 || k >= OPERANDS || kind < KIND_NONE || kind > KIND_NUMBER) {
            return false;
        }
        int last = kind == KIND_REGISTER ? LAST_REGISTER : 0;
        if (register < 0 || register > last) {
            return false;
        }
        fields.setOperand(k, kind, register);
        return true;
    }

    public void memory(int base, int index, int scale, int displacement) {
        fields.memory.become(base, index, scale, displacement);
    }

    public void number(long v) {
        fields.number = v;
    }

    public int encode() throws IllegalArgumentException {
        boolean found = false;
        int lines = Table.lines();
        for (int line = 0; line < lines; line++) {
            if (writer.canTell(line)) {
                writer.write(line);
                // Only strictly fewer bytes replace: of equally many the first line's stay.
                if (!found || attempt.count < encoded.count) {
                    encoded.copyFrom(attempt);
                }
                found = true;
            }
        }
        if (!found) {
            throw new IllegalArgumentException("no bytes tell these fields");
        }
        return encoded.count;
    }

    public int octet(int i) {
        return encoded.at(i);
    }

    public boolean feed(long word, int n) {
        if (n < 1 || n > 8 || n > fed.room()) {
            return false;
        }
        for (int i = n - 1; i >= 0; i--) {
            fed.append((int) (word >>> (8 * i)));
        }
        return true;
    }

    public int decode() throws IllegalArgumentException {
        int length = reader.readInstruction();
        fed.clear();
        if (length == 0) {
            throw new IllegalArgumentException("the bytes begin with no instruction");
        }
        fields.copyFrom(reader.into);
        return length;
    }

    public int field(int what) {
        switch (what) {
            case 0:
                return fields.op;
            case 1:
                return fields.size;
            case 2:
                return fields.condition;
            case 3:
            case 5:
            case 7:
                return fields.kindOf((what - 3) / 2);
            case 4:
            case 6:
            case 8:
                return fields.registerOf((what - 4) / 2);
            case 9:
                return fields.memory.base;
            case 10:
                return fields.memory.index;
            case 11:
                return fields.memory.scale;
            case 12:
                return fields.memory.displacement;
            default:
                return 0;
        }
    }

    public long value() {
        return fields.number;
    }

    /** An instruction's fields; those that callers set are not checked before encode. */
    private static final class Fields {
        private int op;
        private int size;
        private int condition;
        private long number;
        private final int[] kinds;
        private final int[] registers;
        private final Memory memory;

        Fields() {
            op = OP_NOP;
            kinds = new int[OPERANDS];
            registers = new int[OPERANDS];
            memory = new Memory();
        }

        void begin(int newOp, int newSize, int newCondition) {
            op = newOp;
            size = newSize;
            condition = newCondition;
            for (int k = 0; k < OPERANDS; k++) {
                setOperand(k, KIND_NONE, 0);
            }
        }

        void setOperand(int k, int kind, int register) {
            if (k >= 0 && k < OPERANDS) {
                kinds[k] = kind;
                registers[k] = register;
            }
        }

        int kindOf(int k) {
            return k >= 0 && k < OPERANDS ? kinds[k] : KIND_NONE;
        }

        int registerOf(int k) {
            return k >= 0 && k < OPERANDS ? registers[k] : 0;
        }

        void copyFrom(Fields other) {
            begin(other.op, other.size, other.condition);
            for (int k = 0; k < OPERANDS; k++) {
                setOperand(k, other.kindOf(k), other.registerOf(k));
            }
            Memory m = other.memory;
            memory.become(m.base, m.index, m.scale, m.displacement);
            number = other.number;
        }
    }

    /** The fields of a memory operand, and how a FORM and an INDEX BYTE tell them. */
    private static final class Memory {
        private int base;
        private int index;
        private int scale;
        private int displacement;

        Memory() {
            becomeNone();
        }

        void becomeNone() {
            become(ABSENT, ABSENT, 1, 0);
        }

        void become(int newBase, int newIndex, int newScale, int newDisplacement) {
            base = newBase;
            index = newIndex;
            scale = newScale;
            displacement = newDisplacement;
        }

        boolean isSound() {
            if (base < ABSENT || base > NEXT_ADDRESS) {
                return false;
            }
            if (index == ABSENT) {
                return scale == 1;
            }
            boolean scaled = scale == 1 || scale == 2 || scale == 4 || scale == 8;
            boolean indexed = index >= 0 && index <= LAST_REGISTER && index != 4;
            return scaled && indexed && base != NEXT_ADDRESS;
        }

        boolean hasBaseRegister() {
            return base != ABSENT && base != NEXT_ADDRESS;
        }

        boolean needsIndexByte() {
            // A FORM's low 4 announces the INDEX BYTE, so bases 4 and 12 can't stand there.
            return base == ABSENT || index != ABSENT || (hasBaseRegister() && (base & 7) == 4);
        }

        int mod() {
            if (!hasBaseRegister()) {
                return 0;
            }
            // With mod 0 the lower bits 5 tell another base, so bases 5 and 13 keep a displacement.
            if (displacement == 0 && (base & 7) != 5) {
                return 0;
            }
            return displacement == (byte) displacement ? 1 : 2;
        }

        int displacementWidth() {
            if (!hasBaseRegister()) {
                return 4;
            }
            int mod = mod();
            return mod == 0 ? 0 : mod == 1 ? 1 : 4;
        }

        int formLow() {
            if (needsIndexByte()) {
                return 4;
            }
            return base == NEXT_ADDRESS ? 5 : base & 7;
        }

        int indexByte() {
            int power = scale == 8 ? 3 : scale == 4 ? 2 : scale == 2 ? 1 : 0;
            int middle = index == ABSENT ? 4 : index & 7;
            int low = base == ABSENT ? 5 : base & 7;
            return 64 * power + 8 * middle + low;
        }

        int prefixBits() {
            int bits = 0;
            if (index > 7) {
                bits |= PREFIX_X;
            }
            if (hasBaseRegister() && base > 7) {
                bits |= PREFIX_B;
            }
            return bits;
        }
    }

    /** A row of bytes, 16 at most. */
    private static final class Octets {
        private static final int MOST = 16;

        private final int[] row;
        private int count;

        Octets() {
            row = new int[MOST];
        }

        void clear() {
            count = 0;
        }

        int room() {
            return MOST - count;
        }

        void append(int octet) {
            if (count >= 0 && count < MOST) {
                row[count] = octet & 0xFF;
                count++;
            }
        }

        void appendLowestFirst(long v, int width) {
            for (int i = 0; i < width; i++) {
                append((int) (v >>> (8 * i)));
            }
        }

        int at(int i) {
            return i >= 0 && i < count && i < MOST ? row[i] : -1;
        }

        void copyFrom(Octets other) {
            clear();
            for (int i = 0; i < other.count; i++) {
                append(other.at(i));
            }
        }
    }

    /** Writes the bytes by which one line of the table tells the fields. */
    private static final class Writer {
        private final Fields from;
        private final Octets out;

        Writer() {
            from = new Fields();
            out = new Octets();
        }

        boolean canTell(int line) {
            if (Table.opOf(line) != from.op || !Table.hasSize(line, from.size)) {
                return false;
            }
            int lastCondition = Table.hasCondition(line) ? LAST_CONDITION : 0;
            if (from.condition < 0 || from.condition > lastCondition) {
                return false;
            }
            for (int k = 0; k < OPERANDS; k++) {
                if (!canTellOperand(line, k)) {
                    return false;
                }
            }
            return true;
        }

        private boolean canTellOperand(int line, int k) {
            int kind = from.kindOf(k);
            boolean register = kind == KIND_REGISTER;
            boolean soundMemory = kind == KIND_MEMORY && from.memory.isSound();
            switch (Table.roleOf(line, k)) {
                case Table.R:
                case Table.PLUS:
                    return register;
                case Table.M:
                case Table.BYTE_M:
                    return register || soundMemory;
                case Table.MEM:
                    return soundMemory;
                case Table.A:
                    return register && from.registerOf(k) == 0;
                case Table.C:
                    return register && from.registerOf(k) == 1;
                case Table.N:
                    return kind == KIND_NUMBER
                            && Table.numberFits(Table.numberOf(line, from.size), from.number);
                default:
                    return kind == KIND_NONE;
            }
        }

        void write(int line) {
            out.clear();
            if (Table.isRepeated(line)) {
                out.append(REPEAT_MARK);
            }
            writePrefix(line);
            writeOpcode(line);
            if (Table.hasForm(line)) {
                writeForm(line);
            }
            int number = Table.numberOf(line, from.size);
            out.appendLowestFirst(from.number, Table.numberWidth(number));
        }

        private void writePrefix(int line) {
            int bits = Table.sizeNeedsW(line, from.size) ? PREFIX_W : 0;
            boolean needed = false;
            for (int k = 0; k < OPERANDS; k++) {
                int role = Table.roleOf(line, k);
                bits |= operandBits(role, k);
                if (from.kindOf(k) == KIND_REGISTER
                        && Table.needsAnyPrefix(role, from.size, from.registerOf(k))) {
                    needed = true;
                }
            }
            if (needed || bits != 0) {
                out.append(PREFIX + bits);
            }
        }

        private int operandBits(int role, int k) {
            if (from.kindOf(k) == KIND_MEMORY) {
                return from.memory.prefixBits();
            }
            if (from.registerOf(k) < 8) {
                return 0;
            }
            return role == Table.R ? PREFIX_R : PREFIX_B;
        }

        private void writeOpcode(int line) {
            int opcode = Table.opcodeOf(line);
            if (Table.hasCondition(line)) {
                opcode += from.condition;
            } else if (Table.hasSizeBit(line)) {
                opcode += from.size == 1 ? 0 : 1;
            } else if (Table.roleOf(line, 0) == Table.PLUS) {
                opcode += from.registerOf(0) & 7;
            }
            if (opcode > 0xFF) {
                out.append(opcode >> 8);
            }
            out.append(opcode);
        }

        private void writeForm(int line) {
            int digit = Table.digitOf(line);
            int reg = digit >= 0 && digit < 8 ? digit : 0;
            int m = 0;
            for (int k = 0; k < OPERANDS; k++) {
                int role = Table.roleOf(line, k);
                if (role == Table.R) {
                    reg = from.registerOf(k) & 7;
                } else if (Table.isFormRole(role)) {
                    m = k;
                }
            }
            if (from.kindOf(m) == KIND_MEMORY) {
                writeMemory(reg);
            } else {
                out.append(64 * 3 + 8 * reg + (from.registerOf(m) & 7));
            }
        }

        private void writeMemory(int reg) {
            Memory memory = from.memory;
            out.append(64 * memory.mod() + 8 * reg + memory.formLow());
            if (memory.needsIndexByte()) {
                out.append(memory.indexByte());
            }
            out.appendLowestFirst(memory.displacement, memory.displacementWidth());
        }
    }

    /**
     * Reads the fields of the instruction with which a row of bytes begins, into fields of its
     * own: bytes that turn out to be none must leave the object's fields as they are.
     */
    private static final class Reader {
        private final Octets in;
        private final Fields into;
        private int next;
        private boolean failed;
        private boolean repeated;
        private boolean prefixed;
        private int prefix;
        private int opcode;
        private int form;

        Reader() {
            in = new Octets();
            into = new Fields();
        }

        /** How many bytes the instruction has; 0 if there is none. */
        int readInstruction() {
            next = 0;
            failed = false;
            readHead();
            int line = failed ? ABSENT : findLine();
            if (line == ABSENT) {
                return 0;
            }
            readLine(line);
            return failed ? 0 : next;
        }

        private void readHead() {
            repeated = in.at(next) == REPEAT_MARK;
            if (repeated) {
                next++;
            }
            prefixed = (in.at(next) & ~0xF) == PREFIX;
            prefix = prefixed ? nextOctet() & 0xF : 0;
            opcode = nextOctet();
            if (opcode == SECOND_PAGE) {
                opcode = 256 * SECOND_PAGE + nextOctet();
            }
        }

        private int findLine() {
            int lines = Table.lines();
            for (int line = 0; line < lines; line++) {
                if (Table.hasOpcode(line, opcode) && isTold(line)) {
                    return line;
                }
            }
            return ABSENT;
        }

        private boolean isTold(int line) {
            return Table.isRepeated(line) == repeated
                    && Table.allowsW(line, hasBit(PREFIX_W))
                    && Table.allowsForm(line, in.at(next));
        }

        private void readLine(int line) {
            int added = opcode - Table.opcodeOf(line);
            into.begin(Table.opOf(line), Table.sizeTold(line, added, hasBit(PREFIX_W)),
                    Table.hasCondition(line) ? added : 0);
            into.memory.becomeNone();
            if (Table.hasForm(line)) {
                form = nextOctet();
                if (formMod() != 3) {
                    readMemory();
                }
            }
            for (int k = 0; k < OPERANDS; k++) {
                readOperand(Table.roleOf(line, k), k);
            }
            readNumber(Table.numberOf(line, into.size));
        }

        private void readMemory() {
            int mod = formMod();
            int low = form & 7;
            int base = high(PREFIX_B) + low;
            int index = ABSENT;
            int scale = 1;
            if (low == 4) {
                int octet = nextOctet();
                int middle = high(PREFIX_X) + (octet >> 3 & 7);
                if (middle != 4) {
                    index = middle;
                    scale = 1 << (octet >> 6);
                }
                base = mod == 0 && (octet & 7) == 5 ? ABSENT : high(PREFIX_B) + (octet & 7);
            } else if (low == 5 && mod == 0) {
                base = NEXT_ADDRESS;
            }
            boolean wide = mod == 2 || base == ABSENT || base == NEXT_ADDRESS;
            int width = wide ? 4 : mod == 1 ? 1 : 0;
            into.memory.become(base, index, scale, (int) nextNumber(width, true));
        }

        private void readOperand(int role, int k) {
            switch (role) {
                case Table.R:
                    readRegister(role, k, high(PREFIX_R) + (form >> 3 & 7));
                    break;
                case Table.PLUS:
                    readRegister(role, k, high(PREFIX_B) + (opcode & 7));
                    break;
                case Table.M:
                case Table.BYTE_M:
                case Table.MEM:
                    readFormOperand(role, k);
                    break;
                case Table.A:
                    into.setOperand(k, KIND_REGISTER, 0);
                    break;
                case Table.C:
                    into.setOperand(k, KIND_REGISTER, 1);
                    break;
                case Table.N:
                    into.setOperand(k, KIND_NUMBER, 0);
                    break;
                default:
                    break;
            }
        }

        private void readFormOperand(int role, int k) {
            if (formMod() != 3) {
                into.setOperand(k, KIND_MEMORY, 0);
            } else if (role == Table.MEM) {
                failed = true;
            } else {
                readRegister(role, k, high(PREFIX_B) + (form & 7));
            }
        }

        private void readRegister(int role, int k, int register) {
            if (!prefixed && Table.needsAnyPrefix(role, into.size, register)) {
                failed = true;
            }
            into.setOperand(k, KIND_REGISTER, register);
        }

        private void readNumber(int number) {
            if (number == Table.ONE) {
                into.number = 1;
            } else {
                int width = Table.numberWidth(number);
                into.number = nextNumber(width, Table.numberHasSign(number));
            }
        }

        private int formMod() {
            return form >> 6 & 3;
        }

        private boolean hasBit(int bit) {
            return (prefix & bit) != 0;
        }

        private int high(int bit) {
            return hasBit(bit) ? 8 : 0;
        }

        private long nextNumber(int width, boolean signed) {
            long v = 0;
            for (int i = 0; i < width; i++) {
                v |= (long) nextOctet() << (8 * i);
            }
            if (!signed || width < 1 || width > 7) {
                return v;
            }
            int unused = 64 - 8 * width;
            return v << unused >> unused;
        }

        private int nextOctet() {
            int octet = in.at(next);
            if (octet < 0) {
                failed = true;
                return 0;
            }
            next++;
            return octet;
        }
    }

    /** The document's table of ops, a row for each of its lines, in its order. */
    private static final class Table {
        // By what an operand is told: "r", "m", "m" of size 1 whatever the line's size is, "M",
        // "+r", "A", "C", the number.
        private static final int R = 1;
        private static final int M = 2;
        private static final int BYTE_M = 3;
        private static final int MEM = 4;
        private static final int PLUS = 5;
        private static final int A = 6;
        private static final int C = 7;
        private static final int N = 8;

        private static final int NO_OPERANDS = 0;
        private static final int M_R = M + 16 * R;
        private static final int R_M = R + 16 * M;
        private static final int R_BYTE_M = R + 16 * BYTE_M;
        private static final int R_MEM = R + 16 * MEM;
        private static final int A_N = A + 16 * N;
        private static final int M_N = M + 16 * N;
        private static final int M_C = M + 16 * C;
        private static final int PLUS_N = PLUS + 16 * N;
        private static final int R_M_N = R + 16 * M + 256 * N;

        // The numbers; UB is an ib without a sign, ID_IB an ib with the size 1 and an id else.
        private static final int NO = 0;
        private static final int IB = 1;
        private static final int UB = 2;
        private static final int IW = 3;
        private static final int ID = 4;
        private static final int IO = 5;
        private static final int ID_IB = 6;
        private static final int ONE = 7;

        // The sizes; V4 and V8 are the halves of "v" where W tells two lines apart.
        private static final int S0 = 0;
        private static final int S1 = 1;
        private static final int S1V = 2;
        private static final int V = 3;
        private static final int V4 = 4;
        private static final int V8 = 5;
        private static final int S8 = 6;

        private static final int PLAIN = 0;
        private static final int REPEAT = 1;
        private static final int COND = 2;

        private static final int NO_DIGIT = -1;
        private static final int ANY = 8;

        private static final int COLUMNS = 7;
        private static final int COLUMN_OP = 0;
        private static final int COLUMN_MARK = 1;
        private static final int COLUMN_SIZES = 2;
        private static final int COLUMN_OPCODE = 3;
        private static final int COLUMN_DIGIT = 4;
        private static final int COLUMN_OPERANDS = 5;
        private static final int COLUMN_NUMBER = 6;

        private static final int[] CELLS = {
            0, PLAIN, S1V, 0x00, NO_DIGIT, M_R, NO,
            0, PLAIN, S1V, 0x02, NO_DIGIT, R_M, NO,
            0, PLAIN, S1V, 0x04, NO_DIGIT, A_N, ID_IB,
            0, PLAIN, S1V, 0x80, 0, M_N, ID_IB,
            0, PLAIN, V, 0x83, 0, M_N, IB,
            1, PLAIN, S1V, 0x08, NO_DIGIT, M_R, NO,
            1, PLAIN, S1V, 0x0A, NO_DIGIT, R_M, NO,
            1, PLAIN, S1V, 0x0C, NO_DIGIT, A_N, ID_IB,
            1, PLAIN, S1V, 0x80, 1, M_N, ID_IB,
            1, PLAIN, V, 0x83, 1, M_N, IB,
            2, PLAIN, S1V, 0x10, NO_DIGIT, M_R, NO,
            2, PLAIN, S1V, 0x12, NO_DIGIT, R_M, NO,
            2, PLAIN, S1V, 0x14, NO_DIGIT, A_N, ID_IB,
            2, PLAIN, S1V, 0x80, 2, M_N, ID_IB,
            2, PLAIN, V, 0x83, 2, M_N, IB,
            3, PLAIN, S1V, 0x18, NO_DIGIT, M_R, NO,
            3, PLAIN, S1V, 0x1A, NO_DIGIT, R_M, NO,
            3, PLAIN, S1V, 0x1C, NO_DIGIT, A_N, ID_IB,
            3, PLAIN, S1V, 0x80, 3, M_N, ID_IB,
            3, PLAIN, V, 0x83, 3, M_N, IB,
            4, PLAIN, S1V, 0x20, NO_DIGIT, M_R, NO,
            4, PLAIN, S1V, 0x22, NO_DIGIT, R_M, NO,
            4, PLAIN, S1V, 0x24, NO_DIGIT, A_N, ID_IB,
            4, PLAIN, S1V, 0x80, 4, M_N, ID_IB,
            4, PLAIN, V, 0x83, 4, M_N, IB,
            5, PLAIN, S1V, 0x28, NO_DIGIT, M_R, NO,
            5, PLAIN, S1V, 0x2A, NO_DIGIT, R_M, NO,
            5, PLAIN, S1V, 0x2C, NO_DIGIT, A_N, ID_IB,
            5, PLAIN, S1V, 0x80, 5, M_N, ID_IB,
            5, PLAIN, V, 0x83, 5, M_N, IB,
            6, PLAIN, S1V, 0x30, NO_DIGIT, M_R, NO,
            6, PLAIN, S1V, 0x32, NO_DIGIT, R_M, NO,
            6, PLAIN, S1V, 0x34, NO_DIGIT, A_N, ID_IB,
            6, PLAIN, S1V, 0x80, 6, M_N, ID_IB,
            6, PLAIN, V, 0x83, 6, M_N, IB,
            7, PLAIN, S1V, 0x38, NO_DIGIT, M_R, NO,
            7, PLAIN, S1V, 0x3A, NO_DIGIT, R_M, NO,
            7, PLAIN, S1V, 0x3C, NO_DIGIT, A_N, ID_IB,
            7, PLAIN, S1V, 0x80, 7, M_N, ID_IB,
            7, PLAIN, V, 0x83, 7, M_N, IB,
            8, PLAIN, S1V, 0x88, NO_DIGIT, M_R, NO,
            8, PLAIN, S1V, 0x8A, NO_DIGIT, R_M, NO,
            8, PLAIN, S1V, 0xC6, 0, M_N, ID_IB,
            8, PLAIN, S1, 0xB0, NO_DIGIT, PLUS_N, IB,
            8, PLAIN, V4, 0xB8, NO_DIGIT, PLUS_N, ID,
            8, PLAIN, V8, 0xB8, NO_DIGIT, PLUS_N, IO,
            9, PLAIN, S1V, 0x84, NO_DIGIT, M_R, NO,
            9, PLAIN, S1V, 0xA8, NO_DIGIT, A_N, ID_IB,
            9, PLAIN, S1V, 0xF6, 0, M_N, ID_IB,
            10, PLAIN, S1V, 0x86, NO_DIGIT, M_R, NO,
            11, PLAIN, V, 0x8D, NO_DIGIT, R_MEM, NO,
            12, PLAIN, V, 0x0FB6, NO_DIGIT, R_BYTE_M, NO,
            13, PLAIN, V, 0x0FBE, NO_DIGIT, R_BYTE_M, NO,
            14, PLAIN, V8, 0x63, NO_DIGIT, R_M, NO,
            15, PLAIN, S1V, 0xF6, 2, M, NO,
            16, PLAIN, S1V, 0xF6, 3, M, NO,
            17, PLAIN, S1V, 0xF6, 4, M, NO,
            18, PLAIN, S1V, 0xF6, 5, M, NO,
            19, PLAIN, S1V, 0xF6, 6, M, NO,
            20, PLAIN, S1V, 0xF6, 7, M, NO,
            21, PLAIN, S1V, 0xFE, 0, M, NO,
            22, PLAIN, S1V, 0xFE, 1, M, NO,
            23, PLAIN, V, 0x0FAF, NO_DIGIT, R_M, NO,
            23, PLAIN, V, 0x69, NO_DIGIT, R_M_N, ID,
            23, PLAIN, V, 0x6B, NO_DIGIT, R_M_N, IB,
            24, PLAIN, S1V, 0xC0, 0, M_N, UB,
            24, PLAIN, S1V, 0xD0, 0, M_N, ONE,
            24, PLAIN, S1V, 0xD2, 0, M_C, NO,
            25, PLAIN, S1V, 0xC0, 1, M_N, UB,
            25, PLAIN, S1V, 0xD0, 1, M_N, ONE,
            25, PLAIN, S1V, 0xD2, 1, M_C, NO,
            26, PLAIN, S1V, 0xC0, 4, M_N, UB,
            26, PLAIN, S1V, 0xD0, 4, M_N, ONE,
            26, PLAIN, S1V, 0xD2, 4, M_C, NO,
            27, PLAIN, S1V, 0xC0, 5, M_N, UB,
            27, PLAIN, S1V, 0xD0, 5, M_N, ONE,
            27, PLAIN, S1V, 0xD2, 5, M_C, NO,
            28, PLAIN, S1V, 0xC0, 7, M_N, UB,
            28, PLAIN, S1V, 0xD0, 7, M_N, ONE,
            28, PLAIN, S1V, 0xD2, 7, M_C, NO,
            29, PLAIN, S8, 0x50, NO_DIGIT, PLUS, NO,
            29, PLAIN, S8, 0x68, NO_DIGIT, N, ID,
            29, PLAIN, S8, 0x6A, NO_DIGIT, N, IB,
            29, PLAIN, S8, 0xFF, 6, M, NO,
            30, PLAIN, S8, 0x58, NO_DIGIT, PLUS, NO,
            30, PLAIN, S8, 0x8F, 0, M, NO,
            31, PLAIN, S0, 0xE9, NO_DIGIT, N, ID,
            31, PLAIN, S0, 0xEB, NO_DIGIT, N, IB,
            31, PLAIN, S0, 0xFF, 4, M, NO,
            32, PLAIN, S0, 0xE8, NO_DIGIT, N, ID,
            32, PLAIN, S0, 0xFF, 2, M, NO,
            33, PLAIN, S0, 0xC3, NO_DIGIT, NO_OPERANDS, NO,
            33, PLAIN, S0, 0xC2, NO_DIGIT, N, IW,
            34, COND, S0, 0x0F80, NO_DIGIT, N, ID,
            34, COND, S0, 0x70, NO_DIGIT, N, IB,
            35, COND, S1, 0x0F90, ANY, M, NO,
            36, COND, V, 0x0F40, NO_DIGIT, R_M, NO,
            37, PLAIN, V, 0x99, NO_DIGIT, NO_OPERANDS, NO,
            38, PLAIN, V, 0x98, NO_DIGIT, NO_OPERANDS, NO,
            39, PLAIN, S0, 0x90, NO_DIGIT, NO_OPERANDS, NO,
            40, PLAIN, S0, 0xCC, NO_DIGIT, NO_OPERANDS, NO,
            41, PLAIN, S0, 0x0F0B, NO_DIGIT, NO_OPERANDS, NO,
            42, PLAIN, S0, 0x0F05, NO_DIGIT, NO_OPERANDS, NO,
            43, PLAIN, S0, 0xC9, NO_DIGIT, NO_OPERANDS, NO,
            44, PLAIN, V, 0x0FBC, NO_DIGIT, R_M, NO,
            45, PLAIN, V, 0x0FBD, NO_DIGIT, R_M, NO,
            46, PLAIN, V, 0x0FC8, NO_DIGIT, PLUS, NO,
            47, PLAIN, V, 0x0FA3, NO_DIGIT, M_R, NO,
            47, PLAIN, V, 0x0FBA, 4, M_N, UB,
            48, PLAIN, S1V, 0x0FC0, NO_DIGIT, M_R, NO,
            49, PLAIN, S1V, 0x0FB0, NO_DIGIT, M_R, NO,
            50, PLAIN, S1V, 0xA4, NO_DIGIT, NO_OPERANDS, NO,
            51, PLAIN, S1V, 0xAA, NO_DIGIT, NO_OPERANDS, NO,
            52, REPEAT, S1V, 0xA4, NO_DIGIT, NO_OPERANDS, NO,
            53, REPEAT, S1V, 0xAA, NO_DIGIT, NO_OPERANDS, NO,
        };

        static int lines() {
            return CELLS.length / COLUMNS;
        }

        private static int cell(int line, int column) {
            int i = line * COLUMNS + column;
            return i >= 0 && i < CELLS.length ? CELLS[i] : 0;
        }

        static int opOf(int line) {
            return cell(line, COLUMN_OP);
        }

        static boolean isRepeated(int line) {
            return cell(line, COLUMN_MARK) == REPEAT;
        }

        static boolean hasCondition(int line) {
            return cell(line, COLUMN_MARK) == COND;
        }

        static int opcodeOf(int line) {
            return cell(line, COLUMN_OPCODE);
        }

        static int digitOf(int line) {
            return cell(line, COLUMN_DIGIT);
        }

        static int roleOf(int line, int k) {
            return cell(line, COLUMN_OPERANDS) >> (4 * k) & 15;
        }

        static boolean hasSizeBit(int line) {
            return cell(line, COLUMN_SIZES) == S1V;
        }

        static boolean hasSize(int line, int size) {
            switch (cell(line, COLUMN_SIZES)) {
                case S0:
                    return size == 0;
                case S1:
                    return size == 1;
                case S1V:
                    return size == 1 || size == 4 || size == 8;
                case V:
                    return size == 4 || size == 8;
                case V4:
                    return size == 4;
                default:
                    return size == 8;
            }
        }

        static boolean sizeNeedsW(int line, int size) {
            return size == 8 && cell(line, COLUMN_SIZES) != S8;
        }

        static boolean allowsW(int line, boolean w) {
            int sizes = cell(line, COLUMN_SIZES);
            return w ? sizes != V4 : sizes != V8;
        }

        /** The size that bytes tell, of which the opcode is so much above the line's. */
        static int sizeTold(int line, int added, boolean w) {
            int sizes = cell(line, COLUMN_SIZES);
            if (sizes == S0) {
                return 0;
            }
            if (sizes == S1 || (sizes == S1V && added == 0)) {
                return 1;
            }
            return w || sizes == S8 ? 8 : 4;
        }

        static boolean hasOpcode(int line, int opcode) {
            int added = opcode - opcodeOf(line);
            return added >= 0 && added < opcodes(line);
        }

        /** How many opcodes the line has, from its own onward. */
        private static int opcodes(int line) {
            if (hasCondition(line)) {
                return 16;
            }
            if (hasSizeBit(line)) {
                return 2;
            }
            return roleOf(line, 0) == PLUS ? 8 : 1;
        }

        /** Whether the byte behind the opcode (-1: none is there) can be the line's FORM. */
        static boolean allowsForm(int line, int form) {
            int digit = digitOf(line);
            if (digit < 0 || digit > 7) {
                return true;
            }
            return form >= 0 && (form >> 3 & 7) == digit;
        }

        static boolean hasForm(int line) {
            return isFormRole(roleOf(line, 0)) || isFormRole(roleOf(line, 1));
        }

        static boolean isFormRole(int role) {
            return role == M || role == BYTE_M || role == MEM;
        }

        /** Whether a register stands for bytes 4 .. 7, which no bytes without a PREFIX tell. */
        static boolean needsAnyPrefix(int role, int size, int register) {
            return (size == 1 || role == BYTE_M) && register >= 4 && register <= 7;
        }

        static int numberOf(int line, int size) {
            int number = cell(line, COLUMN_NUMBER);
            if (number == ID_IB) {
                return size == 1 ? IB : ID;
            }
            return number;
        }

        static int numberWidth(int number) {
            switch (number) {
                case IB:
                case UB:
                    return 1;
                case IW:
                    return 2;
                case ID:
                    return 4;
                case IO:
                    return 8;
                default:
                    return 0;
            }
        }

        static boolean numberHasSign(int number) {
            return number == IB || number == ID || number == IO;
        }

        static boolean numberFits(int number, long v) {
            switch (number) {
                case IB:
                    return v == (byte) v;
                case UB:
                    return v >= 0 && v <= 0xFF;
                case IW:
                    return v >= 0 && v <= 0xFFFF;
                case ID:
                    return v == (int) v;
                case IO:
                    return true;
                case ONE:
                    return v == 1;
                default:
                    return false;
            }
        }
    }
}
