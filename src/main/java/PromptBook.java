import java.util.NoSuchElementException;

/** The prompt book of a puppet theatre: it takes books of scenes, plays them, and tells what came of it. */
public final class PromptBook {
    public static final int NONE = -1;

    private static final int TAPE_MOST = 4000;
    private static final int FED_AT_ONCE = 20;
    private static final int FUEL_MOST = 20000;

    private final byte[] tape;
    private final Reader reader;
    private final Machine machine;
    private int filled;
    private int faultKind;
    private int faultPlace;

    public PromptBook() {
        tape = new byte[TAPE_MOST];
        reader = new Reader(tape);
        machine = new Machine();
        filled = 0;
        faultKind = 0;
        faultPlace = NONE;
    }

    public int feed(int a, int b, int c, int d, int e) {
        if (filled + FED_AT_ONCE > TAPE_MOST) {
            return NONE;
        }
        putFour(a);
        putFour(b);
        putFour(c);
        putFour(d);
        putFour(e);
        return filled;
    }

    private void putFour(int number) {
        for (int shift = 24; shift >= 0; shift -= 8) {
            if (filled < TAPE_MOST) {
                tape[filled] = (byte) (number >> shift);
                filled++;
            }
        }
    }

    public int book(int n) throws IllegalArgumentException {
        if (n < 0 || n > filled) {
            throw new IllegalArgumentException("the tape has not so many bytes");
        }
        filled = 0;
        Script script = new Script(n);
        boolean sound = isSound(script, n);
        faultKind = script.faultKind;
        faultPlace = script.faultPlace;
        if (!sound) {
            throw new IllegalArgumentException("the book has a fault");
        }
        machine.take(script);
        return script.sceneCount;
    }

    private boolean isSound(Script script, int n) {
        try {
            reader.open(n);
            new Parser(reader, script).readAll();
            Checker checker = new Checker(script);
            checker.checkNames();
            checker.checkBlocks();
            return true;
        } catch (IllegalStateException fault) {
            return false;
        }
    }

    public int fault(int what) {
        if (what == 0) {
            return faultKind;
        }
        return what == 1 ? faultPlace : NONE;
    }

    public int play(int k, int a, int b, int fuel) {
        Part scene = machine.sceneAt(k);
        if (scene == null || !scene.isPlayable() || fuel < 0 || fuel > FUEL_MOST) {
            return NONE;
        }
        machine.begin(scene, a, b, fuel);
        machine.run();
        return machine.report.answer;
    }

    public int about(int what) {
        Report report = machine.report;
        switch (what) {
            case 0: return report.answer;
            case 1: return report.detail;
            case 2: return report.place;
            case 3: return report.gave;
            case 4: return report.fuelLeft;
            case 5: return report.saidCount;
            case 6: return machine.thingCount;
            case 7: return machine.itemCount;
            case 8: return machine.upsetCount;
            default: return NONE;
        }
    }

    public int said(int i) throws NoSuchElementException {
        if (!machine.report.keeps(i)) {
            throw new NoSuchElementException("no such number was said");
        }
        return machine.report.kept(i);
    }

    public int stage(int k, int what) {
        if (!machine.hasStage(k)) {
            return NONE;
        }
        Thing thing = machine.stageThings[k];
        switch (what) {
            case 0: return machine.stageTells(k);
            case 1: return thing == null ? k : machine.leastStageOf(thing);
            case 2: return thing == null ? 0 : thing.itemCount();
            default: return NONE;
        }
    }

    public int field(int k, int f) {
        if (!machine.hasStage(k)) {
            return NONE;
        }
        Thing thing = machine.stageThings[k];
        if (thing == null || f < 0) {
            return NONE;
        }
        if (thing.kind == Kinds.ROW) {
            return f < thing.itemCount() ? machine.tells(thing.link(f)) : NONE;
        }
        int line = Kinds.fieldAt(thing.kind, f);
        if (line < 0) {
            return NONE;
        }
        int slot = Kinds.fieldSlot(line);
        return Kinds.fieldType(line) == Kinds.INT ? thing.number(slot) : machine.tells(thing.link(slot));
    }

    /** The types and words of the language; a type's number is that of its word. */
    private static final class Kinds {
        static final int NOTHING = -1;
        static final int INT = 0;
        static final int PROP = 1;
        static final int LAMP = 2;
        static final int PUPPET = 3;
        static final int SINGER = 4;
        static final int WALKER = 5;
        static final int ROW = 6;
        static final int CUE = 7;
        static final int SPEAKER = 8;
        static final int MOVER = 9;
        static final int GLOWER = 10;
        static final int NOBODY = 11;
        static final int STAGE = 12;
        static final int SCENE = 13;
        static final int ACT = 14;
        static final int ME = 15;
        static final int VAR = 16;
        static final int SAY = 17;
        static final int IF = 18;
        static final int ELSE = 19;
        static final int WHILE = 20;
        static final int GIVE = 21;
        static final int THROW = 22;
        static final int TRY = 23;
        static final int LACK = 24;
        static final int ALWAYS = 25;
        static final int AS = 26;
        static final int IS = 27;
        static final int NEW = 28;
        // Words from here on are no WORDS of the language: names of fields and calls alone.
        static final int RESERVED = 29;
        static final int WEIGHT = 29;
        static final int OWNER = 30;
        static final int INSIDE = 31;
        static final int HEFT = 32;
        static final int TO = 33;
        static final int GO = 34;
        static final int LIGHT = 35;
        static final int NEXT = 36;
        static final int ON = 37;
        static final int FAR = 38;
        static final int GLOW = 39;
        static final int AGE = 40;
        static final int HELD = 41;
        static final int MASTER = 42;
        static final int WORD = 43;
        static final int LIFT = 44;
        static final int ASK = 45;
        static final int SHINE = 46;
        static final int MANY = 47;
        static final int FIRST = 48;
        static final int SHOUT = 49;
        static final int PITCH = 50;
        static final int LINE = 51;
        static final int PACE = 52;
        static final int NUMBER = 53;
        static final int ABOUT = 54;
        static final int WORD_COUNT = 55;
        static final String WORDS = "int prop lamp puppet singer walker row cue speaker mover glower nobody stage scene act me var say if else while give throw try lack always as is new weight owner inside heft to go light next on far glow age held master word lift ask shine many first shout pitch line pace number about ";

        // Lines of four: the type that has it, its name, what it holds, its slot in a Thing.
        private static final int[] FIELDS = {
            PROP, WEIGHT, INT, 0, PROP, OWNER, PUPPET, 0, PROP, INSIDE, PROP, 1,
            LAMP, LIGHT, INT, 0, LAMP, NEXT, LAMP, 0, LAMP, ON, PUPPET, 1,
            PUPPET, AGE, INT, 0, PUPPET, HELD, PROP, 0, PUPPET, MASTER, PUPPET, 1,
            PUPPET, LAMP, LAMP, 2, PUPPET, ROW, ROW, 3, PUPPET, WORD, CUE, 4,
            SINGER, PITCH, INT, 1, WALKER, PACE, INT, 1, WALKER, NEXT, WALKER, 5,
            CUE, NUMBER, INT, 0, CUE, ABOUT, PUPPET, 0};

        // Lines of four: the type that has it, its name, its parameter's type, what it gives.
        private static final int[] CALLS = {
            PROP, HEFT, INT, INT, PROP, TO, PUPPET, INT, PROP, GO, INT, INT,
            LAMP, FAR, NOTHING, INT, LAMP, GLOW, INT, INT,
            PUPPET, LIFT, NOTHING, INT, PUPPET, ASK, NOTHING, INT, PUPPET, SHINE, INT, INT,
            PUPPET, MANY, NOTHING, INT, PUPPET, FIRST, NOTHING, PUPPET, PUPPET, SHOUT, NOTHING, INT,
            SINGER, LINE, INT, INT, SINGER, GLOW, INT, INT, WALKER, LINE, INT, INT, WALKER, GO, INT, INT,
            SPEAKER, LINE, INT, INT, MOVER, GO, INT, INT, GLOWER, GLOW, INT, INT};

        static boolean isKind(int type) {
            return type >= PROP && type <= WALKER;
        }

        static boolean isRole(int type) {
            return type >= SPEAKER && type <= GLOWER;
        }

        static boolean isType(int word) {
            return word >= INT && word <= GLOWER;
        }

        static boolean fits(int type, int wanted) {
            if (type == wanted) {
                return true;
            }
            switch (wanted) {
                case INT: return false;
                case PUPPET: return type == NOBODY || type == SINGER || type == WALKER;
                case SPEAKER: return type == NOBODY || type == SINGER || type == WALKER;
                case MOVER: return type == NOBODY || type == WALKER || type == PROP;
                case GLOWER: return type == NOBODY || type == LAMP || type == SINGER;
                default: return type == NOBODY;
            }
        }

        private static boolean has(int type, int owner) {
            return type == owner || (owner == PUPPET && (type == SINGER || type == WALKER));
        }

        private static int lineOf(int[] table, int type, int word) {
            for (int line = 0; line + 3 < table.length; line += 4) {
                if (table[line + 1] == word && has(type, table[line])) {
                    return line;
                }
            }
            return -1;
        }

        static int fieldNamed(int type, int word) {
            return lineOf(FIELDS, type, word);
        }

        static int callNamed(int type, int word) {
            return lineOf(CALLS, type, word);
        }

        /** Puppets' lines stand ahead of singers' and walkers' in the table, so its order is the one told. */
        static int fieldAt(int kind, int number) {
            int left = number;
            for (int line = 0; line + 3 < FIELDS.length; line += 4) {
                if (has(kind, FIELDS[line])) {
                    if (left == 0) {
                        return line;
                    }
                    left--;
                }
            }
            return -1;
        }

        private static int at(int[] table, int place) {
            return place >= 0 && place < table.length ? table[place] : NOTHING;
        }

        static int fieldType(int line) {
            return at(FIELDS, line + 2);
        }

        static int fieldSlot(int line) {
            return at(FIELDS, line + 3);
        }

        static int callParameter(int line) {
            return at(CALLS, line + 2);
        }

        static int callGives(int line) {
            return at(CALLS, line + 3);
        }

        private static boolean isOwn(int kind, int word) {
            return lineOf(FIELDS, kind, word) >= 0 || lineOf(CALLS, kind, word) >= 0;
        }

        /** Whether an ACT of this KIND must not bear the word, because things of the KIND have it by themselves. */
        static boolean isTaken(int kind, int word) {
            return isOwn(kind, word) || (kind == PUPPET && (isOwn(SINGER, word) || isOwn(WALKER, word)));
        }
    }

    /** Cuts the tape's bytes into tokens, and shows one of them at a time. */
    private static final class Reader {
        static final int END = 0;
        static final int NAME = 1;
        static final int NUMBER = 2;
        static final int BAD = 3;
        static final int LONG = 4;
        // Added to a sign that has = behind it.
        static final int WITH_EQUALS = 128;
        static final int NO_WORD = -1;

        private static final int NAME_MOST = 12;
        private static final int NUMBER_MOST = 9;
        private static final String SIGNS = "(){}[],;:.=<>+-*/%!&|#";
        private static final String BEFORE_EQUALS = "=!<>";

        private final byte[] text;
        private final long[] wordNames;
        private final int[] kinds;
        private final int[] starts;
        private final int[] numbers;
        private final long[] names;
        private int length;
        private int at;
        private int tokenCount;
        private int shown;
        int kind;
        int start;
        int word;
        int value;
        long name;

        Reader(byte[] tape) {
            text = tape;
            kinds = new int[tape.length + 1];
            starts = new int[tape.length + 1];
            numbers = new int[tape.length + 1];
            names = new long[tape.length + 1];
            wordNames = new long[Kinds.WORD_COUNT];
            int count = 0;
            long code = 0;
            for (int i = 0; i < Kinds.WORDS.length(); i++) {
                char c = Kinds.WORDS.charAt(i);
                if (c != ' ') {
                    code = withSign(code, c);
                } else if (count < wordNames.length) {
                    wordNames[count] = code;
                    count++;
                    code = 0;
                }
            }
        }

        /** Cuts the first n bytes, up to what is no token. */
        void open(int n) {
            length = Math.min(n, text.length);
            at = 0;
            tokenCount = 0;
            shown = -1;
            kind = NUMBER;
            for (int i = 0; i <= length && kind != END && kind != BAD; i++) {
                cutToken();
                kinds[i] = kind;
                starts[i] = start;
                numbers[i] = kind == NUMBER ? value : word;
                names[i] = name;
                tokenCount = i + 1;
            }
        }

        /** Shows the next token; the last one, which is END or BAD, stays. */
        void advance() {
            if (shown + 1 < tokenCount) {
                shown++;
                kind = kinds[shown];
                start = starts[shown];
                word = kind == NAME ? numbers[shown] : NO_WORD;
                value = kind == NUMBER ? numbers[shown] : 0;
                name = names[shown];
            }
        }

        /** Twelve signs of a NAME are one long: 37 to the 12th is below its highest number. */
        private static long withSign(long code, int c) {
            return code * 37 + (isDigit(c) ? c - '0' + 27 : c - 'a' + 1);
        }

        private static boolean isDigit(int c) {
            return c >= '0' && c <= '9';
        }

        private static boolean isLetter(int c) {
            return c >= 'a' && c <= 'z';
        }

        private int byteAt(int place) {
            return place >= 0 && place < length ? text[place] : 0;
        }

        private void cutToken() {
            while (at < length && (byteAt(at) == 32 || byteAt(at) == 10)) {
                at++;
            }
            start = at;
            word = NO_WORD;
            int c = byteAt(at);
            if (at >= length) {
                kind = END;
            } else if (isLetter(c)) {
                cutName();
            } else if (isDigit(c)) {
                cutNumber();
            } else {
                cutSign(c);
            }
        }

        private void cutName() {
            name = 0;
            while (at < length && (isLetter(byteAt(at)) || isDigit(byteAt(at)))) {
                name = withSign(name, byteAt(at));
                at++;
            }
            kind = at - start > NAME_MOST ? LONG : NAME;
            for (int i = 0; i < wordNames.length; i++) {
                if (wordNames[i] == name) {
                    word = i;
                }
            }
        }

        private void cutNumber() {
            value = 0;
            while (at < length && isDigit(byteAt(at))) {
                value = value * 10 + byteAt(at) - '0';
                at++;
            }
            kind = at - start > NUMBER_MOST ? LONG : NUMBER;
        }

        private void cutSign(int c) {
            if (c <= 0 || SIGNS.indexOf((char) c) < 0) {
                kind = BAD;
                return;
            }
            kind = c;
            at++;
            if (BEFORE_EQUALS.indexOf((char) c) >= 0 && byteAt(at) == '=') {
                kind = c + WITH_EQUALS;
                at++;
            }
        }

        /** A NAME that may be that of a variable, SCENE or ACT. */
        boolean isFreeName() {
            return kind == NAME && (word == NO_WORD || word >= Kinds.RESERVED);
        }
    }

    /** A SCENE, or an ACT of a KIND. */
    private static final class Part {
        static final int PARAMETERS_MOST = 5;

        final int kind;
        final long name;
        final int word;
        final int place;
        final long[] names;
        final int[] types;
        final int[] places;
        int parameterCount;
        int gives;
        int begin;
        int end;

        Part(int kind, Reader reader) {
            this.kind = kind;
            name = reader.name;
            word = reader.word;
            place = reader.start;
            names = new long[PARAMETERS_MOST];
            types = new int[PARAMETERS_MOST];
            places = new int[PARAMETERS_MOST];
            gives = Kinds.NOTHING;
        }

        boolean isScene() {
            return kind == Kinds.NOTHING;
        }

        boolean isFull() {
            return parameterCount >= PARAMETERS_MOST;
        }

        void addParameter(long parameter, int type, int where) {
            if (!isFull()) {
                names[parameterCount] = parameter;
                types[parameterCount] = type;
                places[parameterCount] = where;
                parameterCount++;
            }
        }

        boolean isPlayable() {
            return parameterCount <= 2 && areInts();
        }

        private boolean areInts() {
            for (int i = 0; i < parameterCount && i < types.length; i++) {
                if (types[i] != Kinds.INT) {
                    return false;
                }
            }
            return true;
        }

        boolean isLike(Part other) {
            if (gives != other.gives || parameterCount != other.parameterCount) {
                return false;
            }
            for (int i = 0; i < parameterCount && i < types.length; i++) {
                if (types[i] != other.types[i]) {
                    return false;
                }
            }
            return true;
        }
    }

    /** A book as a list of small orders that the Machine goes through, with its STAGES, SCENES and ACTS. */
    private static final class Script {
        // Orders up to LAST_IDLE are for the Checker alone, or marks to jump to: the Machine passes over them.
        static final int OPEN = 0;
        static final int CLOSE = 1;
        static final int PAREN = 2;
        static final int SCENE_NAME = 3;
        static final int THING_NAME = 4;
        static final int VAR_NAME = 5;
        static final int TARGET_NAME = 6;
        static final int TARGET_FIELD = 7;
        static final int TARGET_ITEM = 8;
        static final int LACK_NUMBER = 9;
        static final int LACK = 10;
        static final int CUE_CLAUSE = 11;
        static final int ALWAYS = 12;
        static final int ROW_AHEAD = 13;
        static final int INT_AHEAD = 14;
        static final int LAST_IDLE = 14;
        // The Checker puts another order in the place of each of these.
        static final int NAME = 15;
        static final int FIELD = 16;
        static final int CALL = 17;
        static final int STORE = 18;
        static final int VAR_STORE = 19;
        // Values.
        static final int NUMBER = 20;
        static final int NOBODY = 21;
        static final int ME = 22;
        static final int GET_LOCAL = 23;
        static final int GET_STAGE = 24;
        static final int GET_NUMBER = 25;
        static final int GET_LINK = 26;
        static final int ITEM = 27;
        static final int LENGTH = 28;
        static final int AS = 29;
        static final int IS = 30;
        static final int NEW = 31;
        static final int NEW_CUE = 32;
        static final int NEW_ROW = 33;
        static final int LAST_VALUE = 33;
        // Sums.
        static final int NEGATE = 40;
        static final int NOT = 41;
        static final int MULTIPLY = 42;
        static final int DIVIDE = 43;
        static final int REMAINDER = 44;
        static final int ADD = 45;
        static final int SUBTRACT = 46;
        static final int LESS = 47;
        static final int LESS_EQUAL = 48;
        static final int GREATER = 49;
        static final int GREATER_EQUAL = 50;
        static final int EQUAL = 51;
        static final int UNEQUAL = 52;
        static final int LAST_SUM = 52;
        // Doings.
        static final int AND_TEST = 60;
        static final int AND_END = 61;
        static final int OR_TEST = 62;
        static final int OR_END = 63;
        static final int STEP = 64;
        static final int JUMP = 65;
        static final int JUMP_FALSE = 66;
        static final int SET_LOCAL = 67;
        static final int SET_STAGE = 68;
        static final int SET_NUMBER = 69;
        static final int SET_LINK = 70;
        static final int SET_ITEM = 71;
        static final int LAST_WRITE = 71;
        static final int SAY = 72;
        static final int DROP = 73;
        static final int GIVE = 74;
        static final int THROW = 75;
        static final int TRY = 76;
        static final int LEAVE = 77;
        static final int RESUME = 78;
        static final int CALL_SCENE = 79;
        static final int CALL_ACT = 80;
        static final int CALL_OWN = 81;
        static final int CALL_ROLE = 82;

        static final int STAGES_MOST = 12;
        static final int PARTS_MOST = 16;

        static final int WRONG_TOKEN = 1;
        static final int WRONG_NAME = 2;
        static final int WRONG_TYPE = 3;
        static final int TOO_MUCH = 4;

        final int[] orders;
        final int[] args;
        final int[] links;
        final int[] places;
        final long[] names;
        final int[] words;
        int size;

        final long[] stageNames;
        final int[] stageTypes;
        final int[] stagePlaces;
        int stageCount;

        final Part[] parts;
        final Part[] scenes;
        int partCount;
        int sceneCount;

        int faultKind;
        int faultPlace;

        Script(int bytes) {
            // No token needs more than two orders of its own, and each has a byte at least.
            int room = bytes * 2 + 16;
            orders = new int[room];
            args = new int[room];
            links = new int[room];
            places = new int[room];
            names = new long[room];
            words = new int[room];
            stageNames = new long[STAGES_MOST];
            stageTypes = new int[STAGES_MOST];
            stagePlaces = new int[STAGES_MOST];
            parts = new Part[PARTS_MOST * 2];
            scenes = new Part[PARTS_MOST];
            faultPlace = NONE;
        }

        void fail(int kind, int place) {
            faultKind = kind;
            faultPlace = place;
            throw new IllegalStateException("a fault");
        }

        int add(int order, int arg, int link, int place) {
            if (size >= orders.length) {
                fail(TOO_MUCH, place);
            }
            orders[size] = order;
            args[size] = arg;
            links[size] = link;
            places[size] = place;
            size++;
            return size - 1;
        }

        void nameLast(Reader reader) {
            if (size > 0) {
                names[size - 1] = reader.name;
                words[size - 1] = reader.word;
            }
        }

        void addStage(long name, int type, int place) {
            if (stageCount < STAGES_MOST) {
                stageNames[stageCount] = name;
                stageTypes[stageCount] = type;
                stagePlaces[stageCount] = place;
                stageCount++;
            }
        }

        boolean hasRoomFor(boolean scene) {
            return scene ? sceneCount < PARTS_MOST : partCount - sceneCount < PARTS_MOST;
        }

        void addPart(Part part) {
            if (!hasRoomFor(part.isScene())) {
                return;
            }
            parts[partCount] = part;
            partCount++;
            if (part.isScene()) {
                scenes[sceneCount] = part;
                sceneCount++;
            }
        }

        boolean has(int index) {
            return index >= 0 && index < size;
        }

        void setArg(int index, int arg) {
            if (has(index)) {
                args[index] = arg;
            }
        }

        Part partAt(int index) {
            return index >= 0 && index < partCount ? parts[index] : null;
        }

        /** The part of exactly this kind (NOTHING for a SCENE) and name, or NONE. */
        int partNamed(int kind, long name) {
            for (int i = 0; i < partCount; i++) {
                if (parts[i].kind == kind && parts[i].name == name) {
                    return i;
                }
            }
            return NONE;
        }

        /** The ACT that a thing of this kind answers to: its own, else that of puppets. */
        int actFor(int kind, long name) {
            if (!Kinds.isKind(kind)) {
                return NONE;
            }
            int own = partNamed(kind, name);
            return own == NONE && Kinds.fits(kind, Kinds.PUPPET) ? partNamed(Kinds.PUPPET, name) : own;
        }
    }

    /** Reads a book by its grammar into a Script; the first fault of kind 1 or 4 stops it. */
    private static final class Parser {
        private static final int NEST_MOST = 10;
        private static final int LOCALS_MOST = 16;
        private static final int STEPS_MOST = 8;
        // No text has so many tokens: the bound of loops that a token ends.
        private static final int TOKENS_MOST = 5000;
        private static final int TIGHTEST = 5;
        private static final int COMPARING = 3;

        private final Reader reader;
        private final Script script;
        private Part part;
        private int nested;
        private int localCount;

        Parser(Reader reader, Script script) {
            this.reader = reader;
            this.script = script;
        }

        void readAll() {
            reader.advance();
            for (int i = 0; i < TOKENS_MOST && reader.word == Kinds.STAGE; i++) {
                readStage();
            }
            for (int i = 0; i < TOKENS_MOST && (reader.word == Kinds.SCENE || reader.word == Kinds.ACT); i++) {
                readHead();
                readParameters();
                readGives();
                part.begin = script.size;
                readBlock();
                part.end = script.add(Script.GIVE, 0, NONE, NONE);
            }
            if (reader.kind != Reader.END) {
                refuse();
            }
        }

        /** What is wrong with the token, if it is not the one that is wanted: too much comes ahead of no book going on. */
        private int faultHere() {
            int kind = reader.kind;
            boolean opens = kind == '(' || kind == '[' || kind == '{';
            boolean tooDeep = opens && nested >= NEST_MOST;
            return kind == Reader.LONG || tooDeep ? Script.TOO_MUCH : Script.WRONG_TOKEN;
        }

        private void refuse() {
            script.fail(faultHere(), reader.start);
        }

        private void tooMuch() {
            script.fail(Script.TOO_MUCH, reader.start);
        }

        private void want(int kind) {
            if (reader.kind != kind) {
                script.fail(faultHere(), reader.start);
            }
            reader.advance();
        }

        private void open(int sign) {
            if (reader.kind != sign || nested >= NEST_MOST) {
                script.fail(faultHere(), reader.start);
            }
            nested++;
            reader.advance();
        }

        private void close(int sign) {
            if (reader.kind != sign) {
                script.fail(faultHere(), reader.start);
            }
            nested--;
            reader.advance();
        }

        private int readType() {
            int type = reader.word;
            if (!Kinds.isType(type)) {
                refuse();
            }
            reader.advance();
            return type;
        }

        private void readStage() {
            reader.advance();
            if (!reader.isFreeName()) {
                refuse();
            }
            if (script.stageCount >= Script.STAGES_MOST) {
                tooMuch();
            }
            long name = reader.name;
            int place = reader.start;
            reader.advance();
            want(':');
            script.addStage(name, readType(), place);
            want(';');
        }

        private void readHead() {
            boolean scene = reader.word == Kinds.SCENE;
            int kind = Kinds.NOTHING;
            reader.advance();
            if (!scene) {
                kind = reader.word;
                if (!Kinds.isKind(kind)) {
                    refuse();
                }
                reader.advance();
            }
            if (!reader.isFreeName()) {
                refuse();
            }
            if (!script.hasRoomFor(scene)) {
                tooMuch();
            }
            part = new Part(kind, reader);
            script.addPart(part);
            nested = 0;
            reader.advance();
        }

        private void readGives() {
            if (reader.kind == ':') {
                reader.advance();
                part.gives = readType();
            }
        }

        private void readParameters() {
            open('(');
            if (reader.kind != ')') {
                readParameter();
                for (int i = 0; i < TOKENS_MOST && reader.kind == ','; i++) {
                    reader.advance();
                    readParameter();
                }
            }
            close(')');
            localCount = part.parameterCount;
        }

        private void readParameter() {
            if (!reader.isFreeName()) {
                refuse();
            }
            if (part.isFull()) {
                tooMuch();
            }
            long name = reader.name;
            int place = reader.start;
            reader.advance();
            want(':');
            part.addParameter(name, readType(), place);
        }

        private void readBlock() {
            int place = reader.start;
            open('{');
            script.add(Script.OPEN, 0, NONE, place);
            for (int i = 0; i < TOKENS_MOST && reader.kind != '}'; i++) {
                readStatement();
            }
            close('}');
            script.add(Script.CLOSE, 0, NONE, place);
        }

        private void readStatement() {
            int place = reader.start;
            script.add(Script.STEP, 0, NONE, place);
            switch (reader.word) {
                case Kinds.VAR: readVar(); break;
                case Kinds.SAY: readOneValued(Script.SAY); break;
                case Kinds.THROW: readOneValued(Script.THROW); break;
                case Kinds.IF: readIf(); break;
                case Kinds.WHILE: readWhile(place); break;
                case Kinds.GIVE: readGive(place); break;
                case Kinds.TRY: readTry(place); break;
                default: readPathStatement(); break;
            }
        }

        private int addLocal(int order) {
            if (!reader.isFreeName()) {
                refuse();
            }
            if (localCount >= LOCALS_MOST) {
                tooMuch();
            }
            int index = script.add(order, localCount, NONE, reader.start);
            script.nameLast(reader);
            localCount++;
            reader.advance();
            return index;
        }

        private void readVar() {
            reader.advance();
            int told = addLocal(Script.VAR_NAME);
            want(':');
            script.links[told] = readType();
            want('=');
            readValue();
            want(';');
            script.add(Script.VAR_STORE, script.args[told], told, script.places[told]);
        }

        private void readOneValued(int order) {
            int place = reader.start;
            reader.advance();
            readValue();
            want(';');
            script.add(order, 0, NONE, place);
        }

        private void readGive(int place) {
            reader.advance();
            int count = 0;
            if (reader.kind != ';') {
                readValue();
                count = 1;
            }
            want(';');
            script.add(Script.GIVE, count, NONE, place);
        }

        private void readPathStatement() {
            if (!reader.isFreeName() && reader.word != Kinds.ME && reader.kind != '(') {
                refuse();
            }
            readPath();
            int last = script.size - 1;
            int order = script.has(last) ? script.orders[last] : NONE;
            if (reader.kind == '=' && targetOf(order) != NONE) {
                script.orders[last] = targetOf(order);
                reader.advance();
                readValue();
                want(';');
                script.add(Script.STORE, 0, last, script.places[last]);
            } else if (reader.kind == ';' && order == Script.CALL) {
                reader.advance();
                script.add(Script.DROP, 0, NONE, NONE);
            } else {
                refuse();
            }
        }

        private static int targetOf(int order) {
            switch (order) {
                case Script.NAME: return Script.TARGET_NAME;
                case Script.FIELD: return Script.TARGET_FIELD;
                case Script.ITEM: return Script.TARGET_ITEM;
                default: return NONE;
            }
        }

        /** The condition's jump, whose aim is not known yet. */
        private int readCondition() {
            open('(');
            readValue();
            close(')');
            return script.add(Script.JUMP_FALSE, NONE, NONE, NONE);
        }

        private void readIf() {
            reader.advance();
            int past = readCondition();
            readBlock();
            int exits = NONE;
            for (int i = 0; i < TOKENS_MOST && past != NONE && reader.word == Kinds.ELSE; i++) {
                exits = script.add(Script.JUMP, exits, NONE, NONE);
                script.setArg(past, script.size);
                past = NONE;
                reader.advance();
                if (reader.word == Kinds.IF) {
                    reader.advance();
                    past = readCondition();
                }
                readBlock();
            }
            script.setArg(past, script.size);
            aimAll(exits);
        }

        /** Until they are aimed, each of the jumps has the one ahead of it for its aim. */
        private void aimAll(int lastJump) {
            int jump = lastJump;
            for (int i = 0; i < TOKENS_MOST && script.has(jump); i++) {
                int ahead = script.args[jump];
                script.setArg(jump, script.size);
                jump = ahead;
            }
        }

        private void readWhile(int place) {
            reader.advance();
            int head = script.add(Script.STEP, 0, NONE, place);
            int past = readCondition();
            readBlock();
            script.add(Script.JUMP, head, NONE, NONE);
            script.setArg(past, script.size);
        }

        private void readTry(int place) {
            reader.advance();
            int begin = script.add(Script.TRY, NONE, NONE, place);
            readBlock();
            script.add(Script.LEAVE, 0, NONE, NONE);
            int last = begin;
            for (int i = 0; i < TOKENS_MOST && (reader.word == Kinds.LACK || reader.word == Kinds.CUE); i++) {
                int clause = reader.word == Kinds.LACK ? readLack() : readCue();
                script.links[last] = clause;
                last = clause;
                script.add(Script.LEAVE, 0, NONE, NONE);
            }
            boolean always = reader.word == Kinds.ALWAYS;
            if (last == begin && !always) {
                refuse();
            }
            script.setArg(begin, script.add(Script.ALWAYS, 0, NONE, NONE));
            if (always) {
                reader.advance();
                readBlock();
            }
            script.add(Script.RESUME, 0, NONE, NONE);
        }

        private int readLack() {
            int clause = script.add(Script.LACK, 0, NONE, reader.start);
            reader.advance();
            open('(');
            readLackNumber(clause);
            for (int i = 0; i < TOKENS_MOST && reader.kind == ','; i++) {
                reader.advance();
                readLackNumber(clause);
            }
            close(')');
            readBlock();
            return clause;
        }

        private void readLackNumber(int clause) {
            int upset = reader.value;
            if (reader.kind != Reader.NUMBER) {
                refuse();
            }
            script.add(Script.LACK_NUMBER, upset, NONE, reader.start);
            if (upset >= 1 && upset <= Machine.UPSETS) {
                script.args[clause] |= 1 << upset;
            }
            reader.advance();
        }

        private int readCue() {
            reader.advance();
            open('(');
            script.add(Script.OPEN, 0, NONE, NONE);
            int clause = addLocal(Script.CUE_CLAUSE);
            close(')');
            readBlock();
            script.add(Script.CLOSE, 0, NONE, NONE);
            return clause;
        }

        private void readValue() {
            readJoined(1);
        }

        /** An operand and what is joined to it by signs that bind at least so tightly. */
        private void readJoined(int loosest) {
            readUnary();
            int tightest = TIGHTEST;
            for (int i = 0; i < TOKENS_MOST; i++) {
                int sign = reader.kind;
                int level = tightness(sign);
                if (level < loosest || level > tightest) {
                    return;
                }
                int place = reader.start;
                int between = betweenOf(sign);
                int test = between == NONE ? NONE : script.add(between, NONE, NONE, place);
                reader.advance();
                readJoined(level + 1);
                int done = script.add(orderOf(sign), 0, NONE, place);
                script.setArg(test, done);
                tightest = level == COMPARING ? COMPARING - 1 : level;
            }
        }

        /** The order that stands between a sign's left part and its right one, or NONE. */
        private static int betweenOf(int sign) {
            switch (sign) {
                case '|': return Script.OR_TEST;
                case '&': return Script.AND_TEST;
                case '=' + Reader.WITH_EQUALS:
                case '!' + Reader.WITH_EQUALS: return NONE;
                // Each part wholly, its type too: the left one's comes ahead of all that is in the right one.
                default: return Script.INT_AHEAD;
            }
        }

        private static int tightness(int sign) {
            switch (sign) {
                case '|': return 1;
                case '&': return 2;
                case '=' + Reader.WITH_EQUALS:
                case '!' + Reader.WITH_EQUALS:
                case '<':
                case '<' + Reader.WITH_EQUALS:
                case '>':
                case '>' + Reader.WITH_EQUALS: return COMPARING;
                case '+':
                case '-': return 4;
                case '*':
                case '/':
                case '%': return TIGHTEST;
                default: return 0;
            }
        }

        private static int orderOf(int sign) {
            switch (sign) {
                case '|': return Script.OR_END;
                case '&': return Script.AND_END;
                case '=' + Reader.WITH_EQUALS: return Script.EQUAL;
                case '!' + Reader.WITH_EQUALS: return Script.UNEQUAL;
                case '<': return Script.LESS;
                case '<' + Reader.WITH_EQUALS: return Script.LESS_EQUAL;
                case '>': return Script.GREATER;
                case '>' + Reader.WITH_EQUALS: return Script.GREATER_EQUAL;
                case '+': return Script.ADD;
                case '-': return Script.SUBTRACT;
                case '*': return Script.MULTIPLY;
                case '/': return Script.DIVIDE;
                default: return Script.REMAINDER;
            }
        }

        private void readUnary() {
            int sign = reader.kind;
            int place = reader.start;
            if (sign == '-' || sign == '!' || sign == '#') {
                if (nested >= NEST_MOST) {
                    tooMuch();
                }
                nested++;
                reader.advance();
                readUnary();
                nested--;
                int order = sign == '-' ? Script.NEGATE : sign == '!' ? Script.NOT : Script.LENGTH;
                script.add(order, 0, NONE, place);
                return;
            }
            readPath();
            if (reader.word == Kinds.AS || reader.word == Kinds.IS) {
                int order = reader.word == Kinds.AS ? Script.AS : Script.IS;
                place = reader.start;
                reader.advance();
                int type = reader.word;
                if (!Kinds.isKind(type) && !Kinds.isRole(type)) {
                    refuse();
                }
                reader.advance();
                script.add(order, type, NONE, place);
            }
        }

        private void readPath() {
            readBase();
            for (int steps = 0; steps <= STEPS_MOST; steps++) {
                if (reader.kind != '.' && reader.kind != '[') {
                    return;
                }
                if (steps >= STEPS_MOST) {
                    tooMuch();
                }
                if (reader.kind == '.') {
                    readMember();
                } else {
                    readItem();
                }
            }
        }

        private void readItem() {
            int place = reader.start;
            open('[');
            // Of a PATH's step the type of the part ahead comes first: ahead of all that is inside the [ ].
            script.add(Script.ROW_AHEAD, 0, NONE, place);
            readValue();
            close(']');
            script.add(Script.ITEM, 0, NONE, place);
        }

        private void readMember() {
            reader.advance();
            if (reader.kind != Reader.NAME) {
                refuse();
            }
            readNamed(Script.FIELD, Script.THING_NAME);
        }

        private void readNamed(int alone, int called) {
            int index = script.add(alone, 0, NONE, reader.start);
            script.nameLast(reader);
            reader.advance();
            if (reader.kind == '(') {
                script.orders[index] = called;
                int count = readArguments();
                script.add(Script.CALL, count, index, script.places[index]);
            }
        }

        private int readArguments() {
            int count = 0;
            open('(');
            if (reader.kind != ')') {
                readValue();
                count = 1;
                for (int i = 0; i < TOKENS_MOST && reader.kind == ','; i++) {
                    reader.advance();
                    readValue();
                    count++;
                }
            }
            close(')');
            return count;
        }

        private void readBase() {
            int place = reader.start;
            if (reader.isFreeName()) {
                readNamed(Script.NAME, Script.SCENE_NAME);
            } else if (reader.kind == Reader.NUMBER) {
                script.add(Script.NUMBER, reader.value, NONE, place);
                reader.advance();
            } else if (reader.kind == '(') {
                open('(');
                readValue();
                close(')');
                script.add(Script.PAREN, 0, NONE, place);
            } else if (reader.word == Kinds.NOBODY || reader.word == Kinds.ME) {
                script.add(reader.word == Kinds.ME ? Script.ME : Script.NOBODY, 0, NONE, place);
                reader.advance();
            } else if (reader.word == Kinds.NEW) {
                readNew(place);
            } else {
                refuse();
            }
        }

        private void readNew(int place) {
            reader.advance();
            int type = reader.word;
            if (Kinds.isKind(type)) {
                reader.advance();
                script.add(Script.NEW, type, NONE, place);
            } else if (type == Kinds.CUE) {
                reader.advance();
                open('(');
                readValue();
                close(')');
                script.add(Script.NEW_CUE, 0, NONE, place);
            } else if (type == Kinds.ROW) {
                reader.advance();
                open('[');
                readValue();
                close(']');
                script.add(Script.NEW_ROW, 0, NONE, place);
            } else {
                refuse();
            }
        }
    }

    /** Looks whether names and types of a Script are as they must be, and settles what its orders mean. */
    private static final class Checker {
        private static final int LOCALS_MOST = 16;
        // Ten braces may be open, and each may have that of cue ( ) around it.
        private static final int BLOCKS_MOST = 24;
        private static final int OWN = 0;
        private static final int ACTED = 1;

        private final Script script;
        private final int[] types;
        private final int[] firsts;
        private final long[] localNames;
        private final int[] localTypes;
        private final int[] localSlots;
        private final int[] blocks;
        private Part part;
        private int top;
        private int localCount;
        private int blockCount;

        Checker(Script script) {
            this.script = script;
            types = new int[script.size + 1];
            firsts = new int[script.size + 1];
            localNames = new long[LOCALS_MOST];
            localTypes = new int[LOCALS_MOST];
            localSlots = new int[LOCALS_MOST];
            blocks = new int[BLOCKS_MOST];
        }

        void checkNames() {
            checkStageNames();
            checkSceneNames();
            checkActNames();
            for (int i = 0; i < script.partCount; i++) {
                checkParameters(script.parts[i]);
            }
            for (int i = 0; i < script.partCount; i++) {
                checkLikeness(script.parts[i]);
            }
        }

        void checkBlocks() {
            for (int i = 0; i < script.partCount; i++) {
                beginPart(script.parts[i]);
                for (int j = part.begin; j < part.end; j++) {
                    int order = script.orders[j];
                    if (order <= Script.VAR_STORE) {
                        checkNaming(j, order);
                    } else if (order <= Script.LAST_VALUE) {
                        checkValue(j, order);
                    } else if (order <= Script.LAST_SUM) {
                        checkSum(order, script.places[j]);
                    } else {
                        checkDoing(j, order);
                    }
                }
            }
        }

        private void checkStageNames() {
            for (int i = 0; i < script.stageCount; i++) {
                if (stageNamed(script.stageNames[i]) != i) {
                    script.fail(Script.WRONG_NAME, script.stagePlaces[i]);
                }
            }
        }

        private int stageNamed(long name) {
            for (int i = 0; i < script.stageCount; i++) {
                if (script.stageNames[i] == name) {
                    return i;
                }
            }
            return NONE;
        }

        private void checkSceneNames() {
            for (int i = 0; i < script.partCount; i++) {
                Part scene = script.parts[i];
                if (scene.isScene() && script.partNamed(scene.kind, scene.name) != i) {
                    script.fail(Script.WRONG_NAME, scene.place);
                }
            }
        }

        private void checkActNames() {
            for (int i = 0; i < script.partCount; i++) {
                Part act = script.parts[i];
                if (act.isScene()) {
                    continue;
                }
                if (script.partNamed(act.kind, act.name) != i || Kinds.isTaken(act.kind, act.word)) {
                    script.fail(Script.WRONG_NAME, act.place);
                }
            }
        }

        private void checkParameters(Part owner) {
            for (int i = 0; i < owner.parameterCount; i++) {
                for (int j = 0; j < i; j++) {
                    if (owner.names[j] == owner.names[i]) {
                        script.fail(Script.WRONG_NAME, owner.places[i]);
                    }
                }
            }
        }

        private void checkLikeness(Part act) {
            if (act.kind != Kinds.SINGER && act.kind != Kinds.WALKER) {
                return;
            }
            Part general = script.partAt(script.partNamed(Kinds.PUPPET, act.name));
            if (general != null && !act.isLike(general)) {
                script.fail(Script.WRONG_TYPE, act.place);
            }
        }

        private void beginPart(Part next) {
            part = next;
            top = 0;
            localCount = 0;
            blockCount = 0;
            for (int i = 0; i < part.parameterCount; i++) {
                tellLocal(part.names[i], part.types[i], i);
            }
        }

        private void tellLocal(long name, int type, int slot) {
            if (localCount < LOCALS_MOST) {
                localNames[localCount] = name;
                localTypes[localCount] = type;
                localSlots[localCount] = slot;
                localCount++;
            }
        }

        private int localNamed(long name) {
            for (int i = localCount - 1; i >= 0; i--) {
                if (localNames[i] == name) {
                    return i;
                }
            }
            return NONE;
        }

        private void push(int type, int first) {
            if (top < types.length) {
                types[top] = type;
                firsts[top] = first;
                top++;
            }
        }

        /** The type so many values below the last one. */
        private int typeAt(int below) {
            int index = top - 1 - below;
            return index >= 0 && index < types.length ? types[index] : Kinds.NOTHING;
        }

        private int firstAt(int below) {
            int index = top - 1 - below;
            return index >= 0 && index < firsts.length ? firsts[index] : NONE;
        }

        private void drop(int count) {
            top = Math.max(0, top - count);
        }

        private void demand(int below, int type) {
            if (!Kinds.fits(typeAt(below), type)) {
                script.fail(Script.WRONG_TYPE, firstAt(below));
            }
        }

        /** So many values go, one comes that begins where the first of them began. */
        private void replace(int count, int type) {
            int first = firstAt(count - 1);
            drop(count);
            push(type, first);
        }

        private void checkNaming(int i, int order) {
            switch (order) {
                case Script.OPEN: openBlock(); break;
                case Script.CLOSE: closeBlock(); break;
                case Script.PAREN: replaceFirst(script.places[i]); break;
                case Script.SCENE_NAME: findScene(i); break;
                case Script.THING_NAME: findCall(i); break;
                case Script.VAR_NAME: checkUnseen(i); break;
                case Script.TARGET_NAME:
                case Script.NAME: findVariable(i, order); break;
                case Script.TARGET_FIELD:
                case Script.FIELD: findField(i, order); break;
                case Script.TARGET_ITEM: checkItem(); settle(i, Script.SET_ITEM, 0); break;
                case Script.ROW_AHEAD: demand(0, Kinds.ROW); break;
                case Script.INT_AHEAD: demand(0, Kinds.INT); break;
                case Script.LACK_NUMBER: checkLackNumber(i); break;
                case Script.CUE_CLAUSE:
                    checkUnseen(i);
                    tellLocal(script.names[i], Kinds.CUE, script.args[i]);
                    break;
                case Script.CALL: checkCall(i); break;
                case Script.STORE: checkStore(i); break;
                case Script.VAR_STORE: checkVarStore(i); break;
                default: break;
            }
        }

        private void openBlock() {
            if (blockCount < BLOCKS_MOST) {
                blocks[blockCount] = localCount;
                blockCount++;
            }
        }

        private void closeBlock() {
            if (blockCount > 0) {
                blockCount--;
                localCount = blocks[blockCount];
            }
        }

        private void replaceFirst(int place) {
            int type = typeAt(0);
            drop(1);
            push(type, place);
        }

        private void checkUnseen(int i) {
            if (localNamed(script.names[i]) != NONE) {
                script.fail(Script.WRONG_NAME, script.places[i]);
            }
        }

        private void checkLackNumber(int i) {
            if (script.args[i] < 1 || script.args[i] > Machine.UPSETS) {
                script.fail(Script.WRONG_TYPE, script.places[i]);
            }
        }

        /** A target keeps the order that writes it, for the STORE behind the value; others become the order itself. */
        private void settle(int i, int order, int arg) {
            if (script.orders[i] <= Script.LAST_IDLE) {
                script.links[i] = order;
            } else {
                script.orders[i] = order;
            }
            script.args[i] = arg;
        }

        private void findVariable(int i, int order) {
            boolean target = order == Script.TARGET_NAME;
            int local = localNamed(script.names[i]);
            int onStage = stageNamed(script.names[i]);
            if (local != NONE) {
                settle(i, target ? Script.SET_LOCAL : Script.GET_LOCAL, localSlots[local]);
                push(localTypes[local], script.places[i]);
            } else if (onStage != NONE) {
                settle(i, target ? Script.SET_STAGE : Script.GET_STAGE, onStage);
                push(script.stageTypes[onStage], script.places[i]);
            } else {
                script.fail(Script.WRONG_NAME, script.places[i]);
            }
        }

        private void findField(int i, int order) {
            boolean target = order == Script.TARGET_FIELD;
            int line = Kinds.fieldNamed(typeAt(0), script.words[i]);
            if (line < 0) {
                script.fail(Script.WRONG_NAME, script.places[i]);
            }
            int type = Kinds.fieldType(line);
            if (type == Kinds.INT) {
                settle(i, target ? Script.SET_NUMBER : Script.GET_NUMBER, Kinds.fieldSlot(line));
            } else {
                settle(i, target ? Script.SET_LINK : Script.GET_LINK, Kinds.fieldSlot(line));
            }
            replace(1, type);
        }

        private void checkItem() {
            demand(0, Kinds.INT);
            replace(2, Kinds.PUPPET);
        }

        private void checkStore(int i) {
            int target = script.links[i];
            demand(0, typeAt(1));
            drop(2);
            if (script.has(target)) {
                script.orders[i] = script.links[target];
                script.args[i] = script.args[target];
            }
        }

        private void checkVarStore(int i) {
            int told = script.links[i];
            if (!script.has(told)) {
                return;
            }
            demand(0, script.links[told]);
            drop(1);
            tellLocal(script.names[told], script.links[told], script.args[i]);
            script.orders[i] = Script.SET_LOCAL;
        }

        private void findScene(int i) {
            int index = script.partNamed(Kinds.NOTHING, script.names[i]);
            if (index == NONE) {
                script.fail(Script.WRONG_NAME, script.places[i]);
            }
            script.args[i] = index;
        }

        private void findCall(int i) {
            int type = typeAt(0);
            int line = Kinds.callNamed(type, script.words[i]);
            int act = script.actFor(type, script.names[i]);
            if (line >= 0) {
                script.links[i] = OWN;
                script.args[i] = line;
            } else if (act != NONE) {
                script.links[i] = ACTED;
                script.args[i] = act;
            } else {
                script.fail(Script.WRONG_NAME, script.places[i]);
            }
        }

        private void checkCall(int i) {
            int called = script.links[i];
            if (!script.has(called)) {
                return;
            }
            int count = script.args[i];
            if (script.orders[called] == Script.SCENE_NAME) {
                Part scene = script.partAt(script.args[called]);
                checkPartCall(i, scene);
                script.orders[i] = Script.CALL_SCENE;
                drop(count);
                push(scene == null ? Kinds.NOTHING : scene.gives, script.places[called]);
            } else if (script.links[called] == ACTED) {
                Part act = script.partAt(script.args[called]);
                checkPartCall(i, act);
                script.orders[i] = Script.CALL_ACT;
                replace(count + 1, act == null ? Kinds.NOTHING : act.gives);
            } else {
                checkOwnCall(i, script.args[called]);
                boolean byRole = Kinds.isRole(typeAt(count));
                script.orders[i] = byRole ? Script.CALL_ROLE : Script.CALL_OWN;
                replace(count + 1, Kinds.callGives(script.args[called]));
            }
            script.links[i] = count;
            script.args[i] = script.orders[i] < Script.CALL_OWN ? script.args[called] : script.words[called];
        }

        private void checkPartCall(int i, Part callee) {
            int count = script.args[i];
            if (callee == null || callee.parameterCount != count) {
                script.fail(Script.WRONG_TYPE, script.places[i]);
                return;
            }
            for (int j = 0; j < count && j < callee.types.length; j++) {
                demand(count - 1 - j, callee.types[j]);
            }
            boolean alone = script.has(i + 1) && script.orders[i + 1] == Script.DROP;
            if (callee.gives == Kinds.NOTHING && !alone) {
                script.fail(Script.WRONG_TYPE, script.places[i]);
            }
        }

        private void checkOwnCall(int i, int line) {
            int parameter = Kinds.callParameter(line);
            int wanted = parameter == Kinds.NOTHING ? 0 : 1;
            if (script.args[i] != wanted) {
                script.fail(Script.WRONG_TYPE, script.places[i]);
            }
            if (wanted == 1) {
                demand(0, parameter);
            }
        }

        private void checkValue(int i, int order) {
            int place = script.places[i];
            switch (order) {
                case Script.NUMBER: push(Kinds.INT, place); break;
                case Script.NOBODY: push(Kinds.NOBODY, place); break;
                case Script.ME:
                    if (part.isScene()) {
                        script.fail(Script.WRONG_NAME, place);
                    }
                    push(part.kind, place);
                    break;
                case Script.ITEM: checkItem(); break;
                case Script.LENGTH:
                    demand(0, Kinds.ROW);
                    drop(1);
                    push(Kinds.INT, place);
                    break;
                case Script.AS: demandThing(); replace(1, script.args[i]); break;
                case Script.IS: demandThing(); replace(1, Kinds.INT); break;
                case Script.NEW: push(script.args[i], place); break;
                case Script.NEW_CUE: checkMade(Kinds.CUE, place); break;
                case Script.NEW_ROW: checkMade(Kinds.ROW, place); break;
                default: break;
            }
        }

        private void demandThing() {
            if (!Kinds.isKind(typeAt(0)) && !Kinds.isRole(typeAt(0))) {
                script.fail(Script.WRONG_TYPE, firstAt(0));
            }
        }

        private void checkMade(int type, int place) {
            demand(0, Kinds.INT);
            drop(1);
            push(type, place);
        }

        private void checkSum(int order, int place) {
            switch (order) {
                case Script.NEGATE:
                case Script.NOT:
                    demand(0, Kinds.INT);
                    drop(1);
                    push(Kinds.INT, place);
                    break;
                case Script.EQUAL:
                case Script.UNEQUAL:
                    checkComparable(typeAt(1), typeAt(0));
                    replace(2, Kinds.INT);
                    break;
                default: checkRight(); break;
            }
        }

        /** The left part's type was asked for ahead of the right part. */
        private void checkRight() {
            demand(0, Kinds.INT);
            replace(2, Kinds.INT);
        }

        private void checkComparable(int left, int right) {
            if (!Kinds.fits(left, right) && !Kinds.fits(right, left)) {
                script.fail(Script.WRONG_TYPE, firstAt(0));
            }
        }

        private void checkDoing(int i, int order) {
            switch (order) {
                case Script.JUMP_FALSE:
                case Script.SAY: demand(0, Kinds.INT); drop(1); break;
                case Script.THROW: demand(0, Kinds.CUE); drop(1); break;
                case Script.DROP: drop(1); break;
                case Script.GIVE: checkGive(i); break;
                case Script.AND_TEST:
                case Script.OR_TEST: demand(0, Kinds.INT); break;
                case Script.AND_END:
                case Script.OR_END: checkRight(); break;
                default: break;
            }
        }

        private void checkGive(int i) {
            boolean some = script.args[i] == 1;
            if (some != (part.gives != Kinds.NOTHING)) {
                script.fail(Script.WRONG_TYPE, script.places[i]);
            }
            if (some) {
                demand(0, part.gives);
                drop(1);
            }
        }
    }

    /** A prop, lamp, puppet, singer, walker, row or cue. */
    private static final class Thing {
        private static final int PROP_OWNER = 0;
        private static final int PROP_INSIDE = 1;
        private static final int LAMP_NEXT = 0;
        private static final int HELD = 0;
        private static final int MASTER = 1;
        private static final int PUPPET_LAMP = 2;
        private static final int PUPPET_ROW = 3;
        private static final int PUPPET_WORD = 4;

        final int kind;
        private int first;
        private int second;
        private final Thing[] links;

        Thing(int kind, int number, int size) {
            this.kind = kind;
            first = number;
            links = new Thing[Math.max(0, size)];
        }

        static int linksOf(int kind) {
            switch (kind) {
                case Kinds.PROP:
                case Kinds.LAMP: return 2;
                case Kinds.PUPPET:
                case Kinds.SINGER: return 5;
                case Kinds.WALKER: return 6;
                case Kinds.CUE: return 1;
                default: return 0;
            }
        }

        int itemCount() {
            return kind == Kinds.ROW ? links.length : 0;
        }

        boolean hasLink(int slot) {
            return slot >= 0 && slot < links.length;
        }

        Thing link(int slot) {
            return slot >= 0 && slot < links.length ? links[slot] : null;
        }

        void setLink(int slot, Thing thing) {
            if (hasLink(slot)) {
                links[slot] = thing;
            }
        }

        int number(int slot) {
            return slot == 0 ? first : second;
        }

        void setNumber(int slot, int number) {
            if (slot == 0) {
                first = number;
            } else {
                second = number;
            }
        }

        Thing firstItem() {
            Thing row = link(PUPPET_ROW);
            return row == null ? null : row.link(0);
        }

        Thing word() {
            return link(PUPPET_WORD);
        }

        private int unlessLinked(int slot, int upset) {
            return link(slot) == null ? upset : 0;
        }

        /** The kind of the UPSET that this call of the thing comes to, or 0: no call of its own does anything ahead of one. */
        int upsetOf(int call, Thing given) {
            switch (call) {
                case Kinds.HEFT: return unlessLinked(PROP_INSIDE, Machine.READ);
                case Kinds.TO: return given == null ? Machine.WRITE : 0;
                case Kinds.FAR: return unlessLinked(LAMP_NEXT, Machine.READ);
                case Kinds.GLOW: return kind == Kinds.SINGER ? unlessLinked(PUPPET_LAMP, Machine.ROLE) : 0;
                case Kinds.SHINE: return unlessLinked(PUPPET_LAMP, Machine.ROLE);
                case Kinds.LIFT: return unlessLinked(HELD, Machine.READ);
                case Kinds.ASK: {
                    Thing master = link(MASTER);
                    return master == null ? Machine.CALL : master.unlessLinked(HELD, Machine.READ);
                }
                case Kinds.MANY: return unlessLinked(PUPPET_ROW, Machine.LENGTH);
                case Kinds.FIRST: {
                    Thing row = link(PUPPET_ROW);
                    return row == null ? Machine.ITEM_READ : row.hasLink(0) ? 0 : Machine.PLACE;
                }
                case Kinds.SHOUT: return unlessLinked(PUPPET_WORD, Machine.CUE);
                default: return 0;
            }
        }

        private static int firstOf(Thing thing) {
            return thing == null ? 0 : thing.first;
        }

        private int lift() {
            int number = first + firstOf(link(HELD));
            return kind == Kinds.WALKER ? number + second : number;
        }

        private int ask() {
            Thing master = link(MASTER);
            int number = master == null ? 0 : master.lift();
            return kind == Kinds.SINGER ? number + second : number;
        }

        private int brighten(int more) {
            first += more;
            return first;
        }

        private int shine(int more) {
            Thing lamp = link(PUPPET_LAMP);
            return lamp == null ? 0 : lamp.brighten(more);
        }

        private int go(int more) {
            if (kind == Kinds.WALKER) {
                second += more;
                return second;
            }
            return brighten(more);
        }

        private int handTo(Thing puppet) {
            if (puppet != null) {
                puppet.setLink(HELD, this);
            }
            setLink(PROP_OWNER, puppet);
            return firstOf(puppet);
        }

        private int many() {
            Thing row = link(PUPPET_ROW);
            return row == null ? 0 : row.itemCount();
        }

        /** What a call of the thing's own gives that gives a number, once it is known to come to no UPSET. */
        int answerTo(int call, int n, Thing given) {
            switch (call) {
                case Kinds.HEFT: return first * n + firstOf(link(PROP_INSIDE));
                case Kinds.TO: return handTo(given);
                case Kinds.GO: return go(n);
                case Kinds.FAR: return firstOf(link(LAMP_NEXT)) + first;
                case Kinds.GLOW: return kind == Kinds.SINGER ? shine(n) + second : brighten(n);
                case Kinds.LIFT: return lift();
                case Kinds.ASK: return ask();
                case Kinds.SHINE: return shine(n);
                case Kinds.MANY: return many();
                case Kinds.LINE: return kind == Kinds.WALKER ? second * n : second + n;
                default: return 0;
            }
        }
    }

    /** How blocks are left; and for a try that is being done, how its blocks were left when its always came. */
    private static final class Guard {
        static final int BODY = 0;
        static final int CLAUSE = 1;
        static final int ALWAYS = 2;

        int begin;
        int phase;
        int way;
        int number;
        Thing thing;
        int place;

        void hold(int leftBy, int withNumber, Thing withThing, int from) {
            way = leftBy;
            number = withNumber;
            thing = withThing;
            place = from;
        }
    }

    /** A SCENE or ACT that is being done: its locals, its values in work, its tries. */
    private static final class Frame {
        static final int LOCALS = 16;
        // Eleven levels of brackets, each with at most five parts of a call, its thing and three values joined.
        static final int ROOM = LOCALS + 112;
        static final int GUARDS = 10;

        final int[] numbers;
        final Thing[] things;
        private final Guard[] guards;
        private int guardCount;
        int top;
        int returnTo;
        Thing me;

        Frame() {
            numbers = new int[ROOM];
            things = new Thing[ROOM];
            guards = new Guard[GUARDS];
            for (int i = 0; i < GUARDS; i++) {
                guards[i] = new Guard();
            }
        }

        void begin(Thing thing, int comeFrom) {
            me = thing;
            returnTo = comeFrom;
            guardCount = 0;
            top = LOCALS;
        }

        void clearWork() {
            top = LOCALS;
        }

        void set(int index, int number, Thing thing) {
            if (index >= 0 && index < ROOM) {
                numbers[index] = number;
                things[index] = thing;
            }
        }

        void push(int number, Thing thing) {
            if (top < ROOM) {
                set(top, number, thing);
                top++;
            }
        }

        void drop(int count) {
            top = Math.max(LOCALS, top - count);
        }

        int numberAt(int index) {
            return index >= 0 && index < ROOM ? numbers[index] : 0;
        }

        Thing thingAt(int index) {
            return index >= 0 && index < ROOM ? things[index] : null;
        }

        int popNumber() {
            drop(1);
            return numbers[top];
        }

        Thing popThing() {
            drop(1);
            return things[top];
        }

        void addGuard(int begin) {
            if (guardCount < GUARDS) {
                guards[guardCount].begin = begin;
                guards[guardCount].phase = Guard.BODY;
                guardCount++;
            }
        }

        Guard guard() {
            return guardCount > 0 ? guards[guardCount - 1] : null;
        }

        void dropGuard() {
            guardCount = Math.max(0, guardCount - 1);
        }
    }

    /** What is told of the latest play. */
    private static final class Report {
        static final int KEPT_MOST = 2000;

        private final int[] saidNumbers;
        int answer;
        int detail;
        int place;
        int gave;
        int fuelLeft;
        int saidCount;

        Report() {
            saidNumbers = new int[KEPT_MOST];
            begin();
            answer = NONE;
        }

        private void begin() {
            answer = 0;
            detail = 0;
            place = NONE;
            gave = 0;
            fuelLeft = 0;
            saidCount = 0;
        }

        void clear() {
            begin();
        }

        void say(int number) {
            if (saidCount < KEPT_MOST) {
                saidNumbers[saidCount] = number;
            }
            saidCount++;
        }

        boolean keeps(int i) {
            return i >= 0 && i < saidCount && i < KEPT_MOST;
        }

        int kept(int i) {
            return keeps(i) ? saidNumbers[i] : 0;
        }
    }

    /** Plays SCENES of the book it has, and keeps the STAGES. */
    private static final class Machine {
        static final int READ = 1;
        static final int WRITE = 2;
        static final int CALL = 3;
        static final int ROLE = 4;
        static final int CUE = 5;
        static final int LENGTH = 6;
        static final int ITEM_READ = 7;
        static final int ITEM_WRITTEN = 8;
        static final int PLACE = 9;
        static final int KIND = 10;
        static final int ZERO = 11;
        static final int SIZE = 12;
        static final int UPSETS = 12;

        private static final int ENDED = 0;
        private static final int UPSET_OUT = 1;
        private static final int CUE_OUT = 2;
        private static final int NO_FUEL = 3;
        private static final int DEEP = 4;
        private static final int FULL = 5;

        // How a block or part is left.
        private static final int BY_END = 0;
        private static final int BY_GIVE = 1;
        private static final int BY_UPSET = 2;
        private static final int BY_CUE = 3;

        private static final int DEPTH_MOST = 16;
        private static final int ROW_MOST = 1000;
        private static final int THINGS_MOST = 20000;
        private static final int ITEMS_MOST = 60000;
        private static final int UPSETS_MOST = 1500;

        final Report report;
        final int[] stageNumbers;
        final Thing[] stageThings;
        int thingCount;
        int itemCount;
        int upsetCount;
        private final Frame[] frames;
        private Script script;
        private final Guard leaving;
        private Frame frame;
        private int frameCount;
        private int at;
        private int fuel;
        private boolean playing;
        private boolean full;

        Machine() {
            report = new Report();
            stageNumbers = new int[Script.STAGES_MOST];
            stageThings = new Thing[Script.STAGES_MOST];
            frames = new Frame[DEPTH_MOST];
            for (int i = 0; i < DEPTH_MOST; i++) {
                frames[i] = new Frame();
            }
            frame = frames[0];
            leaving = new Guard();
            script = new Script(0);
        }

        void take(Script next) {
            script = next;
            for (int i = 0; i < Script.STAGES_MOST; i++) {
                stageNumbers[i] = 0;
                stageThings[i] = null;
            }
        }

        Part sceneAt(int k) {
            return k >= 0 && k < script.sceneCount ? script.scenes[k] : null;
        }

        boolean hasStage(int k) {
            return k >= 0 && k < script.stageCount;
        }

        int stageTells(int k) {
            if (!hasStage(k)) {
                return NONE;
            }
            if (script.stageTypes[k] == Kinds.INT) {
                return stageNumbers[k];
            }
            return stageThings[k] == null ? 0 : stageThings[k].kind;
        }

        int leastStageOf(Thing thing) {
            for (int k = 0; k < script.stageCount; k++) {
                if (stageThings[k] == thing) {
                    return k;
                }
            }
            return NONE;
        }

        int tells(Thing thing) {
            return thing == null ? 0 : thing.kind + 10 * (leastStageOf(thing) + 1);
        }

        void begin(Part scene, int a, int b, int fuelGiven) {
            report.clear();
            fuel = fuelGiven;
            playing = true;
            leaving.hold(BY_END, 0, null, NONE);
            frameCount = 1;
            frame = frames[0];
            frame.begin(null, NONE);
            frame.set(0, a, null);
            frame.set(1, b, null);
            at = scene.begin;
            if (full) {
                finish(FULL, 0, NONE);
            }
        }

        private void finish(int answer, int detail, int place) {
            playing = false;
            report.answer = answer;
            report.detail = detail;
            report.place = place;
            report.fuelLeft = fuel;
        }

        void run() {
            // Only what takes FUEL leads back to an earlier order, and the end of a call once more.
            long most = (2L * fuel + 4) * (script.size + 1);
            for (long i = 0; i < most && playing && script.has(at); i++) {
                int now = at;
                int order = script.orders[now];
                at++;
                if (order <= Script.LAST_IDLE) {
                    continue;
                }
                if (order <= Script.GET_STAGE) {
                    fetch(order, script.args[now]);
                } else if (order <= Script.LAST_VALUE) {
                    reach(order, script.args[now], script.places[now]);
                } else if (order <= Script.LAST_SUM) {
                    reckon(order, script.places[now]);
                } else if (order <= Script.JUMP_FALSE) {
                    steer(order, script.args[now]);
                } else if (order <= Script.LAST_WRITE) {
                    write(order, script.args[now], script.places[now]);
                } else {
                    act(now, order);
                }
                if (leaving.way != BY_END) {
                    leave();
                }
            }
        }

        private void fetch(int order, int arg) {
            switch (order) {
                case Script.NUMBER: frame.push(arg, null); break;
                case Script.ME: frame.push(0, frame.me); break;
                case Script.GET_LOCAL: frame.push(frame.numberAt(arg), frame.thingAt(arg)); break;
                case Script.GET_STAGE:
                    if (hasStage(arg)) {
                        frame.push(stageNumbers[arg], stageThings[arg]);
                    }
                    break;
                default: frame.push(0, null); break;
            }
        }

        private void reach(int order, int arg, int place) {
            switch (order) {
                case Script.GET_NUMBER:
                case Script.GET_LINK: readField(order, arg, place); break;
                case Script.ITEM: readItem(place); break;
                case Script.LENGTH: readLength(place); break;
                case Script.AS: castTo(arg, place); break;
                case Script.IS: {
                    Thing thing = frame.popThing();
                    frame.push(thing != null && Kinds.fits(thing.kind, arg) ? 1 : 0, null);
                    break;
                }
                case Script.NEW: make(arg, 0, Thing.linksOf(arg)); break;
                case Script.NEW_CUE: make(Kinds.CUE, frame.popNumber(), Thing.linksOf(Kinds.CUE)); break;
                default: makeRow(frame.popNumber(), place); break;
            }
        }

        private void readField(int order, int slot, int place) {
            Thing thing = frame.popThing();
            if (thing == null) {
                upset(READ, place);
            } else if (order == Script.GET_NUMBER) {
                frame.push(thing.number(slot), null);
            } else {
                frame.push(0, thing.link(slot));
            }
        }

        private void readItem(int place) {
            int index = frame.popNumber();
            Thing row = frame.popThing();
            if (row == null) {
                upset(ITEM_READ, place);
            } else if (!row.hasLink(index)) {
                upset(PLACE, place);
            } else {
                frame.push(0, row.link(index));
            }
        }

        private void readLength(int place) {
            Thing row = frame.popThing();
            if (row == null) {
                upset(LENGTH, place);
            } else {
                frame.push(row.itemCount(), null);
            }
        }

        private void castTo(int type, int place) {
            Thing thing = frame.popThing();
            if (thing != null && !Kinds.fits(thing.kind, type)) {
                upset(KIND, place);
            } else {
                frame.push(0, thing);
            }
        }

        private void make(int kind, int number, int size) {
            if (thingCount >= THINGS_MOST) {
                fill();
                return;
            }
            thingCount++;
            frame.push(0, new Thing(kind, number, size));
        }

        private void makeRow(int size, int place) {
            if (size < 0 || size > ROW_MOST) {
                upset(SIZE, place);
            } else if (itemCount + size > ITEMS_MOST || thingCount >= THINGS_MOST) {
                fill();
            } else {
                itemCount += size;
                make(Kinds.ROW, 0, size);
            }
        }

        private void fill() {
            full = true;
            finish(FULL, 0, NONE);
        }

        private void reckon(int order, int place) {
            switch (order) {
                case Script.NEGATE: frame.push(-frame.popNumber(), null); return;
                case Script.NOT: frame.push(frame.popNumber() == 0 ? 1 : 0, null); return;
                case Script.EQUAL: frame.push(popSame() ? 1 : 0, null); return;
                case Script.UNEQUAL: frame.push(popSame() ? 0 : 1, null); return;
                default: break;
            }
            int right = frame.popNumber();
            int left = frame.popNumber();
            if (order == Script.DIVIDE || order == Script.REMAINDER) {
                if (right == 0) {
                    upset(ZERO, place);
                } else {
                    frame.push(order == Script.DIVIDE ? left / right : left % right, null);
                }
                return;
            }
            frame.push(joined(order, left, right), null);
        }

        /** A number has nobody beside it, a thing 0: so both are compared at once. */
        private boolean popSame() {
            int number = frame.popNumber();
            Thing thing = frame.thingAt(frame.top);
            int otherNumber = frame.popNumber();
            return number == otherNumber && thing == frame.thingAt(frame.top);
        }

        private static int joined(int order, int left, int right) {
            switch (order) {
                case Script.MULTIPLY: return left * right;
                case Script.ADD: return left + right;
                case Script.SUBTRACT: return left - right;
                case Script.LESS: return left < right ? 1 : 0;
                case Script.LESS_EQUAL: return left <= right ? 1 : 0;
                case Script.GREATER: return left > right ? 1 : 0;
                default: return left >= right ? 1 : 0;
            }
        }

        private void steer(int order, int aim) {
            switch (order) {
                case Script.AND_TEST:
                case Script.OR_TEST:
                    // The aim is the order that makes 0 or 1 of whichever value is there.
                    if ((frame.numberAt(frame.top - 1) != 0) == (order == Script.OR_TEST)) {
                        at = aim;
                    } else {
                        frame.drop(1);
                    }
                    break;
                case Script.AND_END:
                case Script.OR_END: frame.push(frame.popNumber() != 0 ? 1 : 0, null); break;
                case Script.STEP: spend(); break;
                case Script.JUMP: at = aim; break;
                default:
                    if (frame.popNumber() == 0) {
                        at = aim;
                    }
                    break;
            }
        }

        private boolean spend() {
            if (fuel <= 0) {
                finish(NO_FUEL, 0, NONE);
                return false;
            }
            fuel--;
            return true;
        }

        private void write(int order, int arg, int place) {
            Thing value = frame.popThing();
            int number = frame.numberAt(frame.top);
            switch (order) {
                case Script.SET_LOCAL: frame.set(arg, number, value); break;
                case Script.SET_STAGE:
                    if (hasStage(arg)) {
                        stageNumbers[arg] = number;
                        stageThings[arg] = value;
                    }
                    break;
                case Script.SET_ITEM: writeItem(value, place); break;
                default: {
                    Thing thing = frame.popThing();
                    if (thing == null) {
                        upset(WRITE, place);
                    } else if (order == Script.SET_NUMBER) {
                        thing.setNumber(arg, number);
                    } else {
                        thing.setLink(arg, value);
                    }
                    break;
                }
            }
        }

        private void writeItem(Thing value, int place) {
            int index = frame.popNumber();
            Thing row = frame.popThing();
            if (row == null) {
                upset(ITEM_WRITTEN, place);
            } else if (!row.hasLink(index)) {
                upset(PLACE, place);
            } else {
                row.setLink(index, value);
            }
        }

        private void act(int now, int order) {
            int place = script.places[now];
            switch (order) {
                case Script.SAY: report.say(frame.popNumber()); break;
                case Script.DROP: frame.drop(1); break;
                case Script.GIVE: give(script.args[now]); break;
                case Script.THROW: cast(frame.popThing(), place); break;
                case Script.TRY: frame.addGuard(now); break;
                case Script.LEAVE: goToAlways(); break;
                case Script.RESUME: resume(); break;
                case Script.CALL_SCENE: enter(script.partAt(script.args[now]), null); break;
                case Script.CALL_ACT: callAct(script.partAt(script.args[now]), place); break;
                default: callOwn(now, order == Script.CALL_ROLE ? ROLE : CALL, place); break;
            }
        }

        private void give(int count) {
            if (count == 0) {
                leaving.hold(BY_GIVE, 0, null, NONE);
                return;
            }
            Thing thing = frame.popThing();
            leaving.hold(BY_GIVE, frame.numberAt(frame.top), thing, NONE);
        }

        private void cast(Thing cue, int place) {
            if (cue == null) {
                upset(CUE, place);
            } else {
                leaving.hold(BY_CUE, 0, cue, place);
            }
        }

        private void callAct(Part named, int place) {
            if (named == null) {
                return;
            }
            Thing thing = frame.thingAt(frame.top - named.parameterCount - 1);
            if (thing == null) {
                upset(CALL, place);
            } else {
                enter(script.partAt(script.actFor(thing.kind, named.name)), thing);
            }
        }

        private void enter(Part callee, Thing me) {
            if (callee == null || !spend()) {
                return;
            }
            if (frameCount >= DEPTH_MOST) {
                finish(DEEP, 0, NONE);
                return;
            }
            int count = callee.parameterCount;
            Frame inner = frames[frameCount];
            inner.begin(me, at);
            for (int i = 0; i < count; i++) {
                int from = frame.top - count + i;
                inner.set(i, frame.numberAt(from), frame.thingAt(from));
            }
            frame.drop(me == null ? count : count + 1);
            frameCount++;
            frame = inner;
            at = callee.begin;
        }

        private void callOwn(int now, int ifNobody, int place) {
            int call = script.args[now];
            Thing given = null;
            int number = 0;
            if (script.links[now] == 1) {
                given = frame.popThing();
                number = frame.numberAt(frame.top);
            }
            Thing thing = frame.popThing();
            int upset = thing == null ? ifNobody : thing.upsetOf(call, given);
            if (thing == null || upset != 0) {
                upset(upset, place);
            } else if (call == Kinds.SHOUT) {
                cast(thing.word(), place);
            } else if (call == Kinds.FIRST) {
                frame.push(0, thing.firstItem());
            } else {
                frame.push(thing.answerTo(call, number, given), null);
            }
        }

        private void upset(int kind, int place) {
            if (upsetCount >= UPSETS_MOST) {
                fill();
                return;
            }
            upsetCount++;
            leaving.hold(BY_UPSET, kind, null, place);
        }

        /** The innermost try keeps how it was left, until its always is done. */
        private void goToAlways() {
            Guard guard = frame.guard();
            if (guard == null || !script.has(guard.begin)) {
                return;
            }
            guard.phase = Guard.ALWAYS;
            guard.hold(leaving.way, leaving.number, leaving.thing, leaving.place);
            leaving.hold(BY_END, 0, null, NONE);
            frame.clearWork();
            at = script.args[guard.begin];
        }

        private void resume() {
            Guard guard = frame.guard();
            if (guard != null) {
                leaving.hold(guard.way, guard.number, guard.thing, guard.place);
                frame.dropGuard();
            }
        }

        /** Out of SCENES and ACTS, up to the first that does something about it. */
        private void leave() {
            for (int i = 0; i < DEPTH_MOST; i++) {
                if (isMet()) {
                    return;
                }
                if (frameCount <= 1) {
                    leavePlay();
                    return;
                }
                at = frame.returnTo;
                frameCount--;
                frame = frames[frameCount - 1];
                if (leaving.way == BY_GIVE) {
                    frame.push(leaving.number, leaving.thing);
                    leaving.hold(BY_END, 0, null, NONE);
                    return;
                }
            }
        }

        /** Whether a try of this frame has a clause for it, or an always to do ahead of it. */
        private boolean isMet() {
            for (int i = 0; i < Frame.GUARDS; i++) {
                Guard guard = frame.guard();
                if (guard == null) {
                    return false;
                }
                int clause = guard.phase == Guard.BODY ? clauseOf(guard.begin) : NONE;
                if (clause != NONE) {
                    guard.phase = Guard.CLAUSE;
                    beginClause(clause);
                    return true;
                }
                if (guard.phase != Guard.ALWAYS) {
                    goToAlways();
                    return true;
                }
                frame.dropGuard();
            }
            return false;
        }

        private void beginClause(int clause) {
            if (leaving.way == BY_CUE) {
                frame.set(script.args[clause], 0, leaving.thing);
            }
            leaving.hold(BY_END, 0, null, NONE);
            frame.clearWork();
            at = clause + 1;
        }

        private int clauseOf(int begin) {
            int clause = script.has(begin) ? script.links[begin] : NONE;
            for (int i = 0; i < script.size && script.has(clause); i++) {
                boolean forCue = script.orders[clause] == Script.CUE_CLAUSE;
                if (forCue && leaving.way == BY_CUE) {
                    return clause;
                }
                if (!forCue && leaving.way == BY_UPSET && (script.args[clause] >> leaving.number & 1) == 1) {
                    return clause;
                }
                clause = script.links[clause];
            }
            return NONE;
        }

        private void leavePlay() {
            if (leaving.way == BY_UPSET) {
                finish(UPSET_OUT, leaving.number, leaving.place);
            } else if (leaving.way == BY_CUE) {
                finish(CUE_OUT, leaving.thing == null ? 0 : leaving.thing.number(0), leaving.place);
            } else {
                finish(ENDED, 0, NONE);
                // A thing has 0 beside it, and so has nothing: only a SCENE that tells int has a number here.
                report.gave = leaving.number;
            }
        }
    }
}
