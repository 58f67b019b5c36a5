import java.util.Arrays;

/**
 * A checker for programs that handle secrets, and a machine for them that notes all that somebody
 * beside it can see. The numbered promises of the document say what each method answers.
 */
public final class QuietChecker {
    public static final int NONE = -1;

    private static final int MOST_TEXT = 3000;
    private static final int MOST_FUEL = 20000;
    private static final int MOST_FED = 8;

    private final char[] text;
    private int length;
    private final Program program;
    private final Parser parser;
    private final int[] inputs;
    /** The inputs of the latest run: a twin starts from these, whatever was put since. */
    private final int[] inputsOfRun;
    private final Machine latest;
    private final Machine other;
    private int fuelOfRun;
    private boolean ran;
    private int fault;

    public QuietChecker() {
        text = new char[MOST_TEXT];
        program = new Program();
        parser = new Parser(program);
        inputs = new int[Program.TOP_CELLS];
        inputsOfRun = new int[Program.TOP_CELLS];
        latest = new Machine(program);
        other = new Machine(program);
    }

    public boolean feed(long chars, int n) {
        if (n < 1 || n > MOST_FED || length + n > MOST_TEXT) {
            return false;
        }
        for (int k = 0; k < n; k++) {
            if (!mayStandInText(byteOf(chars, k))) {
                return false;
            }
        }
        for (int k = n - 1; k >= 0; k--) {
            text[length] = byteOf(chars, k);
            length++;
        }
        return true;
    }

    public int check() {
        program.take(text, length);
        length = 0;
        ran = false;
        Arrays.fill(inputs, 0);
        int answer = parser.parse();
        fault = answer % Parser.PLACE_UNIT;
        return answer;
    }

    public void put(int k, int i, int v) throws IllegalStateException, IndexOutOfBoundsException {
        if (!program.whole) {
            throw new IllegalStateException();
        }
        if (!program.hasCell(k, i)) {
            throw new IndexOutOfBoundsException();
        }
        inputs[Program.cell(k, i)] = v;
    }

    public int run(int fuel) throws IllegalStateException, IllegalArgumentException {
        if (!program.whole) {
            throw new IllegalStateException();
        }
        if (fuel < 0 || fuel > MOST_FUEL) {
            throw new IllegalArgumentException();
        }
        System.arraycopy(inputs, 0, inputsOfRun, 0, Program.TOP_CELLS);
        fuelOfRun = fuel;
        ran = true;
        latest.load(inputsOfRun);
        latest.execute(fuelOfRun);
        return latest.end;
    }

    public int twin(int seed) throws IllegalStateException {
        if (!ran) {
            throw new IllegalStateException();
        }
        other.load(inputsOfRun);
        other.disturbSecrets(seed);
        other.execute(fuelOfRun);
        return latest.firstDifference(other);
    }

    public int value(int k, int i) throws IllegalStateException, IndexOutOfBoundsException {
        if (!ran) {
            throw new IllegalStateException();
        }
        if (!program.hasCell(k, i)) {
            throw new IndexOutOfBoundsException();
        }
        return latest.cells[Program.cell(k, i)];
    }

    public int note(int i) throws IllegalStateException, IndexOutOfBoundsException {
        if (!ran) {
            throw new IllegalStateException();
        }
        if (i < 0 || i >= latest.noted) {
            throw new IndexOutOfBoundsException();
        }
        return latest.notes[i];
    }

    public char letter(int k, boolean functions, int i) throws IndexOutOfBoundsException {
        Names names = functions ? program.functions : program.top;
        if (!names.hasCharacter(k, i)) {
            throw new IndexOutOfBoundsException();
        }
        return names.character(k, i);
    }

    public int count(int what) {
        switch (what) {
            case 0:
                return program.top.count;
            case 1:
                return program.functions.count;
            case 2:
                return program.top.secretOnes();
            case 3:
                return program.arrays;
            case 4:
                return program.statements;
            case 5:
                return fault;
            case 6:
                return program.whole ? 1 : 0;
            case 7:
                return ran ? latest.noted : NONE;
            case 8:
                return ran ? latest.steps : NONE;
            case 9:
                return ran ? latest.end : NONE;
            case 10:
                return length;
            default:
                return NONE;
        }
    }

    private static char byteOf(long chars, int k) {
        return (char) ((chars >>> (8 * k)) & 255);
    }

    private static boolean mayStandInText(char c) {
        return c == '\n' || c >= ' ' && c <= '~';
    }

    /** What the machine can do; each is one instruction of a program's code. */
    private static final class Op {
        static final int NOTHING = 0;
        static final int STEP = 1;
        static final int PUSH = 2;
        static final int LOAD = 3;
        static final int STORE = 4;
        static final int READ = 5;
        static final int WRITE = 6;
        static final int BRANCH = 7;
        static final int JUMP_IF_ZERO = 8;
        static final int JUMP = 9;
        static final int CALL = 10;
        static final int RETURN = 11;
        static final int CHOOSE = 12;
        static final int NEGATE = 13;
        static final int INVERT = 14;
        static final int NOT = 15;
        static final int OR = 16;
        static final int XOR = 17;
        static final int AND = 18;
        static final int EQUAL = 19;
        static final int UNEQUAL = 20;
        static final int LESS = 21;
        static final int AT_MOST = 22;
        static final int SHIFT_LEFT = 23;
        static final int SHIFT_RIGHT = 24;
        static final int ADD = 25;
        static final int SUBTRACT = 26;
        static final int MULTIPLY = 27;
        static final int DIVIDE = 28;
        static final int REMAINDER = 29;
    }

    /** The kinds of tokens; a higher level binds more, and level 0 is no sign between two. */
    private enum Kind {
        NAME(""), NUMBER(""), WRONG(""), END(""),
        PUB("pub"), SEC("sec"), FUN("fun"), RETURN("return"),
        IF("if"), ELSE("else"), WHILE("while"), SKIP("skip"),
        OR("|", 1, Op.OR), XOR("^", 2, Op.XOR), AND("&", 3, Op.AND),
        EQUAL("==", 4, Op.EQUAL), UNEQUAL("!=", 4, Op.UNEQUAL),
        LESS("<", 5, Op.LESS), AT_MOST("<=", 5, Op.AT_MOST),
        SHIFT_LEFT("<<", 6, Op.SHIFT_LEFT), SHIFT_RIGHT(">>", 6, Op.SHIFT_RIGHT),
        PLUS("+", 7, Op.ADD), MINUS("-", 7, Op.SUBTRACT),
        TIMES("*", 8, Op.MULTIPLY), OVER("/", 8, Op.DIVIDE), REST("%", 8, Op.REMAINDER),
        INVERT("~"), NOT("!"), ASK("?"), COLON(":"), ASSIGN("="),
        OPEN("("), CLOSE(")"), OPEN_CELL("["), CLOSE_CELL("]"),
        OPEN_BLOCK("{"), CLOSE_BLOCK("}"), SEMICOLON(";"), COMMA(",");

        private static final Kind[] ALL = values();

        final String spelling;
        final int level;
        final int op;

        Kind(String spelling) {
            this.spelling = spelling;
            this.level = 0;
            this.op = Op.NOTHING;
        }

        Kind(String spelling, int level, int op) {
            this.spelling = spelling;
            this.level = level;
            this.op = op;
        }

        boolean startsStatement() {
            return this == NAME || this == IF || this == WHILE || this == SKIP;
        }

        boolean tellsName() {
            return this == FUN || isLabel();
        }

        boolean isLabel() {
            return this == PUB || this == SEC;
        }

        int prefixOp() {
            if (this == MINUS) {
                return Op.NEGATE;
            }
            if (this == INVERT) {
                return Op.INVERT;
            }
            return this == NOT ? Op.NOT : Op.NOTHING;
        }
    }

    /** The tokens of a text; what can be none is of the kind WRONG, and ends the reading. */
    private static final class Tokens {
        private static final int LONGEST_WORD = 15;
        private static final long NUMBERS_END = 1L << 32;
        private static final int MOST_TOKENS = MOST_TEXT + 1;

        final Kind[] kinds;
        final int[] places;
        final int[] sizes;
        final int[] numbers;
        int count;
        private final char[] text;
        private int length;
        private int next;
        private int number;

        Tokens(char[] text) {
            this.text = text;
            kinds = new Kind[MOST_TOKENS];
            places = new int[MOST_TOKENS];
            sizes = new int[MOST_TOKENS];
            numbers = new int[MOST_TOKENS];
        }

        void scan(int textLength) {
            length = Math.min(textLength, text.length);
            count = 0;
            next = 0;
            skipBlanks();
            for (int left = MOST_TEXT; left > 0 && next < length; left--) {
                int place = next;
                Kind kind = scanToken();
                add(kind, place);
                if (kind == Kind.WRONG) {
                    next = length;
                }
                skipBlanks();
            }
            add(Kind.END, length);
        }

        private void add(Kind kind, int place) {
            if (count < MOST_TOKENS) {
                kinds[count] = kind;
                places[count] = place;
                sizes[count] = next - place;
                numbers[count] = number;
                count++;
            }
        }

        private void skipBlanks() {
            boolean silent = false;
            for (; next < length; next++) {
                char c = text[next];
                if (c == '#') {
                    silent = true;
                } else if (c == '\n') {
                    silent = false;
                } else if (c != ' ' && !silent) {
                    return;
                }
            }
        }

        private Kind scanToken() {
            if (isDigit(text[next])) {
                return scanNumber();
            }
            return isWordPart(text[next]) ? scanWord() : scanSign();
        }

        private Kind scanNumber() {
            long sum = 0;
            for (; next < length && isDigit(text[next]); next++) {
                if (sum < NUMBERS_END) {
                    sum = sum * 10 + (text[next] - '0');
                }
            }
            number = (int) sum;
            boolean touchesWord = next < length && isWordPart(text[next]);
            return touchesWord || sum >= NUMBERS_END ? Kind.WRONG : Kind.NUMBER;
        }

        private Kind scanWord() {
            int place = next;
            while (next < length && isWordPart(text[next])) {
                next++;
            }
            int size = next - place;
            for (Kind word : Kind.ALL) {
                if (word.spelling.length() == size && isAt(place, word.spelling)) {
                    return word;
                }
            }
            return size > LONGEST_WORD ? Kind.WRONG : Kind.NAME;
        }

        private Kind scanSign() {
            Kind longest = Kind.WRONG;
            for (Kind sign : Kind.ALL) {
                boolean longer = sign.spelling.length() > longest.spelling.length();
                if (longer && isAt(next, sign.spelling)) {
                    longest = sign;
                }
            }
            next += longest.spelling.length();
            return longest;
        }

        private boolean isAt(int place, String spelling) {
            if (place + spelling.length() > length) {
                return false;
            }
            for (int k = 0; k < spelling.length(); k++) {
                if (text[place + k] != spelling.charAt(k)) {
                    return false;
                }
            }
            return true;
        }

        private static boolean isDigit(char c) {
            return c >= '0' && c <= '9';
        }

        private static boolean isWordPart(char c) {
            return c >= 'a' && c <= 'z' || c >= 'A' && c <= 'Z' || c == '_' || isDigit(c);
        }
    }

    /** Names in the order told, each a piece of the program's text, with its label. */
    private static final class Names {
        private final char[] text;
        private final int[] places;
        private final int[] sizes;
        private final boolean[] secrets;
        int count;

        Names(char[] text, int room) {
            this.text = text;
            places = new int[room];
            sizes = new int[room];
            secrets = new boolean[room];
        }

        void clear() {
            count = 0;
        }

        boolean isFull() {
            return count >= places.length;
        }

        boolean has(int k) {
            return k >= 0 && k < count;
        }

        void add(int place, int size, boolean secret) {
            if (isFull()) {
                return;
            }
            places[count] = place;
            sizes[count] = size;
            secrets[count] = secret;
            count++;
        }

        int find(int place, int size) {
            for (int k = 0; k < count; k++) {
                if (sizes[k] == size && sameLetters(places[k], place, size)) {
                    return k;
                }
            }
            return NONE;
        }

        private boolean sameLetters(int one, int another, int size) {
            if (one + size > text.length || another + size > text.length) {
                return false;
            }
            for (int k = 0; k < size; k++) {
                if (text[one + k] != text[another + k]) {
                    return false;
                }
            }
            return true;
        }

        boolean isSecret(int k) {
            return has(k) && secrets[k];
        }

        int secretOnes() {
            int ones = 0;
            for (int k = 0; k < count; k++) {
                if (secrets[k]) {
                    ones++;
                }
            }
            return ones;
        }

        boolean hasCharacter(int k, int i) {
            return has(k) && i >= 0 && i < sizes[k];
        }

        char character(int k, int i) {
            return hasCharacter(k, i) ? text[places[k] + i] : 0;
        }
    }

    /** What check() made of a text: the names, and code for the machine. */
    private static final class Program {
        static final int MOST_TOP = 40;
        static final int MOST_LOCALS = 12;
        static final int MOST_FUNCTIONS = 6;
        static final int MOST_CELLS = 64;
        static final int TOP_CELLS = MOST_TOP * MOST_CELLS;
        static final int ALL_CELLS = TOP_CELLS + MOST_FUNCTIONS * MOST_LOCALS;
        /** No text makes more instructions than it has characters. */
        private static final int MOST_CODE = MOST_TEXT;

        final char[] text;
        int length;
        final Names top;
        /** How many cells each declaration of the top has as an array: 0 of a variable. */
        final int[] sizes;
        final int[] arrayNumbers;
        int arrays;
        final Names functions;
        final int[] entries;
        private final int[] parameters;
        private final boolean[] secretParameters;
        final int[] ops;
        final int[] details;
        int codeLength;
        int start;
        int statements;
        boolean whole;

        Program() {
            text = new char[MOST_TEXT];
            top = new Names(text, MOST_TOP);
            sizes = new int[MOST_TOP];
            arrayNumbers = new int[MOST_TOP];
            functions = new Names(text, MOST_FUNCTIONS);
            entries = new int[MOST_FUNCTIONS];
            parameters = new int[MOST_FUNCTIONS];
            secretParameters = new boolean[MOST_FUNCTIONS * MOST_LOCALS];
            ops = new int[MOST_CODE];
            details = new int[MOST_CODE];
        }

        static int cell(int k, int i) {
            return k * MOST_CELLS + i;
        }

        /** A function never calls itself, so that each has its variables in one place for good. */
        static int local(int function, int k) {
            return TOP_CELLS + function * MOST_LOCALS + k;
        }

        void take(char[] newText, int newLength) {
            length = Math.min(newLength, Math.min(newText.length, text.length));
            System.arraycopy(newText, 0, text, 0, length);
        }

        void clear() {
            top.clear();
            functions.clear();
            arrays = 0;
            codeLength = 0;
            start = 0;
            statements = 0;
            whole = false;
        }

        void addTop(int place, int size, boolean secret, int cells) {
            if (top.isFull()) {
                return;
            }
            sizes[top.count] = cells;
            arrayNumbers[top.count] = arrays;
            if (cells > 0) {
                arrays++;
            }
            top.add(place, size, secret);
        }

        /** Notes where the function that is told next begins, and which parameters it has. */
        void beginFunction(Names given) {
            if (functions.isFull()) {
                return;
            }
            entries[functions.count] = codeLength;
            parameters[functions.count] = given.count;
            for (int k = 0; k < MOST_LOCALS; k++) {
                secretParameters[functions.count * MOST_LOCALS + k] = given.isSecret(k);
            }
        }

        boolean isArray(int k) {
            return top.has(k) && sizes[k] > 0;
        }

        boolean hasCell(int k, int i) {
            return i >= 0 && i < cellsOf(k);
        }

        int cellsOf(int k) {
            return top.has(k) ? Math.max(1, sizes[k]) : 0;
        }

        int parametersOf(int function) {
            return functions.has(function) ? parameters[function] : 0;
        }

        boolean takesSecret(int function, int parameter) {
            return parameter >= 0 && parameter < parametersOf(function)
                    && secretParameters[function * MOST_LOCALS + parameter];
        }

        int emit(int op, int detail) {
            if (codeLength >= ops.length) {
                return NONE;
            }
            ops[codeLength] = op;
            details[codeLength] = detail;
            codeLength++;
            return codeLength - 1;
        }

        /** Lets a jump that was emitted before go to what is emitted next. */
        void aim(int jump) {
            if (jump >= 0 && jump < codeLength) {
                details[jump] = codeLength;
            }
        }
    }

    /** Reads a text, finds its faults, and makes code of it in one go. */
    private static final class Parser {
        static final int PLACE_UNIT = 16;

        private static final int UNEXPECTED = 1;
        private static final int UNKNOWN = 2;
        private static final int TOLD_ALREADY = 3;
        private static final int TOO_MANY = 4;
        private static final int WRONG_CALL = 5;
        private static final int SECRET_BRANCH = 6;
        private static final int SECRET_INDEX = 7;
        private static final int SECRET_TO_PUBLIC = 8;
        private static final int SECRET_DIVISION = 9;

        private static final int MOST_OPEN = 10;
        /** Variables of a function are numbered behind all that the top can have. */
        private static final int FIRST_LOCAL = Program.MOST_TOP;

        private final Program program;
        private final Tokens tokens;
        private final Names locals;
        private boolean inFunction;
        /** Of the function that is read: the token of its name, and its label. */
        private int functionName;
        private boolean functionSecret;
        private int fault;
        private int leak;
        /** The token that is read next, with its kind and place. */
        private int token;
        private Kind kind;
        private int place;

        Parser(Program program) {
            this.program = program;
            tokens = new Tokens(program.text);
            locals = new Names(program.text, Program.MOST_LOCALS);
            kind = Kind.END;
        }

        int parse() {
            program.clear();
            inFunction = false;
            fault = 0;
            leak = 0;
            tokens.scan(program.length);
            goTo(0);
            for (int left = MOST_TEXT; left > 0 && kind.tellsName(); left--) {
                if (kind == Kind.FUN) {
                    beginFunction();
                    statements(0);
                    endFunction();
                } else {
                    declaration();
                }
            }
            program.start = program.codeLength;
            statements(0);
            expect(Kind.END);
            if (fault != 0) {
                program.clear();
                return fault;
            }
            program.whole = true;
            return leak;
        }

        private void goTo(int newToken) {
            if (newToken >= 0 && newToken < tokens.count) {
                token = newToken;
                kind = tokens.kinds[newToken];
                place = tokens.places[newToken];
            }
        }

        private void advance() {
            goTo(token + 1);
        }

        private void expect(Kind wanted) {
            if (kind == wanted) {
                goTo(token + 1);
            } else {
                fail(UNEXPECTED, place);
            }
        }

        /** The first fault counts; behind it all is at the end at once, where no rule goes on. */
        private void fail(int number, int where) {
            if (fault == 0) {
                fault = number + PLACE_UNIT * where;
                token = tokens.count - 1;
                kind = Kind.END;
            }
        }

        private void tellLeak(int number, int where) {
            int told = number + PLACE_UNIT * where;
            if (leak == 0 || told < leak) {
                leak = told;
            }
        }

        private boolean mayOpen(int open, int where) {
            if (open >= MOST_OPEN) {
                fail(TOO_MANY, where);
            }
            return fault == 0;
        }

        private boolean label() {
            boolean secret = kind == Kind.SEC;
            expect(secret ? Kind.SEC : Kind.PUB);
            return secret;
        }

        /** The token of a name that is not told among these yet; NONE, and a fault, without. */
        private int newName(Names among) {
            int name = token;
            if (kind != Kind.NAME) {
                fail(UNEXPECTED, place);
            } else if (among.find(place, tokens.sizes[name]) != NONE) {
                fail(TOLD_ALREADY, place);
            } else if (among.isFull()) {
                fail(TOO_MANY, place);
            }
            advance();
            return fault == 0 ? name : NONE;
        }

        private void declaration() {
            boolean secret = label();
            int name = newName(program.top);
            int cells = kind == Kind.OPEN_CELL ? arraySize() : 0;
            expect(Kind.SEMICOLON);
            if (name != NONE) {
                program.addTop(tokens.places[name], tokens.sizes[name], secret, cells);
            }
        }

        private int arraySize() {
            advance();
            int cells = tokens.numbers[token];
            if (kind != Kind.NUMBER || cells < 1 || cells > Program.MOST_CELLS) {
                fail(UNEXPECTED, place);
            }
            advance();
            expect(Kind.CLOSE_CELL);
            return cells;
        }

        private void beginFunction() {
            advance();
            functionSecret = label();
            functionName = newName(program.functions);
            locals.clear();
            parameters();
            program.beginFunction(locals);
            inFunction = true;
            expect(Kind.OPEN_BLOCK);
            for (int left = MOST_TEXT; left > 0 && kind.isLabel(); left--) {
                local();
                expect(Kind.SEMICOLON);
            }
        }

        private void endFunction() {
            int word = place;
            expect(Kind.RETURN);
            if (expression(0) && !functionSecret) {
                tellLeak(SECRET_TO_PUBLIC, word);
            }
            expect(Kind.SEMICOLON);
            expect(Kind.CLOSE_BLOCK);
            program.emit(Op.RETURN, 0);
            inFunction = false;
            if (functionName != NONE) {
                // Told only now that it stands whole, so that it can't call itself.
                program.functions.add(
                        tokens.places[functionName], tokens.sizes[functionName], functionSecret);
            }
        }

        private void parameters() {
            expect(Kind.OPEN);
            if (kind != Kind.CLOSE) {
                local();
                for (int left = MOST_TEXT; left > 0 && kind == Kind.COMMA; left--) {
                    advance();
                    local();
                }
            }
            expect(Kind.CLOSE);
        }

        private void local() {
            boolean secret = label();
            int name = newName(locals);
            if (name != NONE) {
                locals.add(tokens.places[name], tokens.sizes[name], secret);
            }
        }

        private void statements(int open) {
            for (int left = MOST_TEXT; left > 0 && kind.startsStatement(); left--) {
                program.statements++;
                statement(open);
            }
        }

        private void statement(int open) {
            if (kind == Kind.NAME) {
                assignment(open);
                return;
            }
            Kind word = kind;
            int where = place;
            if (!mayOpen(open, where)) {
                return;
            }
            program.emit(Op.STEP, 0);
            advance();
            if (word == Kind.IF) {
                branch(where, open + 1);
            } else if (word == Kind.WHILE) {
                repetition(where, open + 1);
            } else {
                expect(Kind.SEMICOLON);
            }
        }

        private void assignment(int open) {
            int name = token;
            advance();
            boolean cell = kind == Kind.OPEN_CELL;
            int target = known(name, cell);
            if (target == NONE || !mayOpen(open, tokens.places[name])) {
                return;
            }
            program.emit(Op.STEP, 0);
            if (cell) {
                // This [ belongs to the statement, not to an E: it does not count as open.
                index(open + 1);
            }
            int sign = place;
            expect(Kind.ASSIGN);
            if (expression(open + 1) && !isSecret(target)) {
                tellLeak(SECRET_TO_PUBLIC, sign);
            }
            expect(Kind.SEMICOLON);
            program.emit(cell ? Op.WRITE : Op.STORE, cell ? target : cellOfVariable(target));
        }

        private void branch(int word, int open) {
            condition(word, open);
            int toElse = program.emit(Op.JUMP_IF_ZERO, 0);
            block(open);
            if (kind != Kind.ELSE) {
                program.aim(toElse);
                return;
            }
            advance();
            int toEnd = program.emit(Op.JUMP, 0);
            program.aim(toElse);
            block(open);
            program.aim(toEnd);
        }

        private void repetition(int word, int open) {
            int again = program.codeLength;
            condition(word, open);
            int toEnd = program.emit(Op.JUMP_IF_ZERO, 0);
            block(open);
            program.emit(Op.STEP, 0);
            program.emit(Op.JUMP, again);
            program.aim(toEnd);
        }

        private void condition(int word, int open) {
            if (expression(open)) {
                tellLeak(SECRET_BRANCH, word);
            }
            program.emit(Op.BRANCH, word);
        }

        private void block(int open) {
            expect(Kind.OPEN_BLOCK);
            statements(open);
            expect(Kind.CLOSE_BLOCK);
        }

        private void index(int open) {
            int bracket = place;
            advance();
            if (expression(open)) {
                tellLeak(SECRET_INDEX, bracket);
            }
            expect(Kind.CLOSE_CELL);
        }

        /** Like all that read a part of an E: whether it is secret. */
        private boolean expression(int open) {
            boolean secret = binary(1, open);
            if (kind != Kind.ASK || !mayOpen(open, place)) {
                return secret;
            }
            advance();
            secret |= expression(open + 1);
            expect(Kind.COLON);
            secret |= expression(open + 1);
            program.emit(Op.CHOOSE, 0);
            return secret;
        }

        private boolean binary(int level, int open) {
            boolean secret = prefixed(open);
            for (int left = MOST_TEXT; left > 0 && kind.level >= level; left--) {
                Kind sign = kind;
                int where = place;
                advance();
                secret |= binary(sign.level + 1, open);
                if (secret && (sign == Kind.OVER || sign == Kind.REST)) {
                    tellLeak(SECRET_DIVISION, where);
                }
                program.emit(sign.op, 0);
            }
            return secret;
        }

        private boolean prefixed(int open) {
            int op = kind.prefixOp();
            if (op == Op.NOTHING) {
                return operand(open);
            }
            if (!mayOpen(open, place)) {
                return false;
            }
            advance();
            boolean secret = prefixed(open + 1);
            program.emit(op, 0);
            return secret;
        }

        private boolean operand(int open) {
            if (kind == Kind.NAME) {
                return named(open);
            }
            if (kind == Kind.NUMBER) {
                program.emit(Op.PUSH, tokens.numbers[token]);
                advance();
                return false;
            }
            if (kind != Kind.OPEN) {
                fail(UNEXPECTED, place);
                return false;
            }
            if (!mayOpen(open, place)) {
                return false;
            }
            advance();
            boolean secret = expression(open + 1);
            expect(Kind.CLOSE);
            return secret;
        }

        private boolean named(int open) {
            int name = token;
            advance();
            if (kind == Kind.OPEN) {
                return call(name, open);
            }
            boolean cell = kind == Kind.OPEN_CELL;
            int source = known(name, cell);
            if (source == NONE || cell && !mayOpen(open, place)) {
                return false;
            }
            if (cell) {
                index(open + 1);
            }
            program.emit(cell ? Op.READ : Op.LOAD, cell ? source : cellOfVariable(source));
            return isSecret(source);
        }

        private boolean call(int name, int open) {
            int function = program.functions.find(tokens.places[name], tokens.sizes[name]);
            if (function == NONE) {
                fail(UNKNOWN, tokens.places[name]);
                return false;
            }
            if (!mayOpen(open, place)) {
                return false;
            }
            advance();
            int given = kind == Kind.CLOSE ? 0 : arguments(function, open + 1);
            if (kind == Kind.CLOSE && given != program.parametersOf(function)) {
                fail(WRONG_CALL, place);
            }
            expect(Kind.CLOSE);
            program.emit(Op.STEP, 0);
            program.emit(Op.CALL, function);
            return program.functions.isSecret(function);
        }

        private int arguments(int function, int open) {
            argument(function, 0, open);
            int given = 1;
            for (int left = MOST_TEXT; left > 0 && kind == Kind.COMMA; left--) {
                advance();
                argument(function, given, open);
                given++;
            }
            return given;
        }

        private void argument(int function, int parameter, int open) {
            int first = place;
            if (expression(open) && !program.takesSecret(function, parameter)) {
                tellLeak(SECRET_TO_PUBLIC, first);
            }
        }

        /** The variable (or array, if it must be one) of this name; NONE, and a fault, without. */
        private int known(int name, boolean array) {
            int where = tokens.places[name];
            int local = inFunction ? locals.find(where, tokens.sizes[name]) : NONE;
            int found = local != NONE
                    ? FIRST_LOCAL + local
                    : program.top.find(where, tokens.sizes[name]);
            if (found == NONE || program.isArray(found) != array) {
                fail(UNKNOWN, where);
                return NONE;
            }
            return found;
        }

        private boolean isSecret(int known) {
            return known < FIRST_LOCAL
                    ? program.top.isSecret(known)
                    : locals.isSecret(known - FIRST_LOCAL);
        }

        private int cellOfVariable(int known) {
            return known < FIRST_LOCAL
                    ? Program.cell(known, 0)
                    : Program.local(program.functions.count, known - FIRST_LOCAL);
        }
    }

    /** Runs a program's code and keeps what can be seen of it. */
    private static final class Machine {
        private static final int RUNNING = -1;
        private static final int ALL_DONE = 0;
        private static final int OUT_OF_FUEL = 1;
        private static final int OUTSIDE = 2;
        private static final int BY_ZERO = 3;
        private static final int TOO_MANY_NOTES = 4;

        private static final int MOST_NOTES = 4000;
        private static final int ONLY_THE_END = -2;

        private final Program program;
        final int[] cells;
        final int[] notes;
        int noted;
        int steps;
        int end;
        /** What waits here stems from different places of the text, so the text bounds it. */
        private final int[] stack;
        private int height;
        private int next;
        private int fuel;

        Machine(Program program) {
            this.program = program;
            cells = new int[Program.ALL_CELLS];
            notes = new int[MOST_NOTES];
            stack = new int[MOST_TEXT];
        }

        void load(int[] inputs) {
            System.arraycopy(inputs, 0, cells, 0, Math.min(inputs.length, Program.TOP_CELLS));
        }

        void disturbSecrets(int seed) {
            int factor = 1;
            for (int k = 0; k < program.top.count; k++) {
                if (program.top.isSecret(k)) {
                    factor = disturbCells(k, seed, factor);
                }
            }
        }

        private int disturbCells(int k, int seed, int firstFactor) {
            int factor = firstFactor;
            for (int i = 0; i < program.cellsOf(k); i++) {
                cells[Program.cell(k, i)] ^= seed * factor;
                factor += 2;
            }
            return factor;
        }

        void execute(int mostSteps) {
            fuel = mostSteps;
            noted = 0;
            steps = 0;
            height = 0;
            next = program.start;
            end = RUNNING;
            // Between two steps no instruction is met twice: only behind a step the code goes back.
            long most = (fuel + 2L) * (program.codeLength + 1L);
            for (long done = 0; done < most && end == RUNNING; done++) {
                if (next < 0 || next >= program.codeLength) {
                    end = ALL_DONE;
                } else {
                    int at = next;
                    next++;
                    perform(program.ops[at], program.details[at]);
                }
            }
        }

        int firstDifference(Machine twin) {
            int both = Math.min(noted, twin.noted);
            for (int k = 0; k < both; k++) {
                if (notes[k] != twin.notes[k]) {
                    return k;
                }
            }
            if (noted != twin.noted) {
                return both;
            }
            return end == twin.end && steps == twin.steps ? NONE : ONLY_THE_END;
        }

        private void perform(int op, int detail) {
            switch (op) {
                case Op.STEP:
                    step();
                    break;
                case Op.PUSH:
                    push(detail);
                    break;
                case Op.LOAD:
                    push(held(detail));
                    break;
                case Op.STORE:
                    hold(detail, pop());
                    break;
                case Op.READ:
                    readCell(detail);
                    break;
                case Op.WRITE:
                    writeCell(detail);
                    break;
                case Op.JUMP:
                    next = detail;
                    break;
                case Op.JUMP_IF_ZERO:
                    next = pop() == 0 ? detail : next;
                    break;
                case Op.CALL:
                    enter(detail);
                    break;
                case Op.RETURN:
                    leave();
                    break;
                default:
                    performOnStack(op, detail);
                    break;
            }
        }

        private void performOnStack(int op, int detail) {
            int last = pop();
            switch (op) {
                case Op.BRANCH:
                    jot(2 * detail + (last != 0 ? 1 : 0));
                    push(last);
                    break;
                case Op.CHOOSE:
                    int first = pop();
                    push(pop() != 0 ? first : last);
                    break;
                case Op.NEGATE:
                    push(-last);
                    break;
                case Op.INVERT:
                    push(~last);
                    break;
                case Op.NOT:
                    push(last == 0 ? 1 : 0);
                    break;
                case Op.DIVIDE:
                case Op.REMAINDER:
                    divide(pop(), last, op == Op.DIVIDE);
                    break;
                default:
                    push(combine(op, pop(), last));
                    break;
            }
        }

        private static int combine(int op, int a, int b) {
            switch (op) {
                case Op.OR:
                    return a | b;
                case Op.XOR:
                    return a ^ b;
                case Op.AND:
                    return a & b;
                case Op.EQUAL:
                    return a == b ? 1 : 0;
                case Op.UNEQUAL:
                    return a != b ? 1 : 0;
                case Op.LESS:
                    return a < b ? 1 : 0;
                case Op.AT_MOST:
                    return a <= b ? 1 : 0;
                case Op.SHIFT_LEFT:
                    return a << (b & 31);
                case Op.SHIFT_RIGHT:
                    return a >>> (b & 31);
                case Op.ADD:
                    return a + b;
                case Op.SUBTRACT:
                    return a - b;
                case Op.MULTIPLY:
                    return a * b;
                default:
                    return 0;
            }
        }

        private void divide(int a, int b, boolean whole) {
            if (b == 0) {
                end = BY_ZERO;
            } else {
                push(whole ? a / b : a % b);
            }
        }

        private int held(int cell) {
            return cell >= 0 && cell < cells.length ? cells[cell] : 0;
        }

        private void hold(int cell, int v) {
            if (cell >= 0 && cell < cells.length) {
                cells[cell] = v;
            }
        }

        private void step() {
            if (steps >= fuel) {
                end = OUT_OF_FUEL;
            } else {
                steps++;
            }
        }

        private boolean jot(int note) {
            if (noted >= MOST_NOTES) {
                end = TOO_MANY_NOTES;
                return false;
            }
            notes[noted] = note;
            noted++;
            return true;
        }

        private boolean touch(int array, int i) {
            if (!program.hasCell(array, i)) {
                end = OUTSIDE;
                return false;
            }
            return jot(-1 - Program.cell(program.arrayNumbers[array], i));
        }

        private void readCell(int array) {
            int i = pop();
            if (touch(array, i)) {
                push(held(Program.cell(array, i)));
            }
        }

        private void writeCell(int array) {
            int v = pop();
            int i = pop();
            if (touch(array, i)) {
                hold(Program.cell(array, i), v);
            }
        }

        private void enter(int function) {
            if (!program.functions.has(function)) {
                return;
            }
            int first = Program.local(function, 0);
            Arrays.fill(cells, first, first + Program.MOST_LOCALS, 0);
            for (int k = program.parametersOf(function) - 1; k >= 0; k--) {
                hold(first + k, pop());
            }
            push(next);
            next = program.entries[function];
        }

        private void leave() {
            int answer = pop();
            next = pop();
            push(answer);
        }

        private void push(int v) {
            if (height < stack.length) {
                stack[height] = v;
                height++;
            }
        }

        private int pop() {
            if (height == 0) {
                return 0;
            }
            height--;
            return stack[height];
        }
    }
}
