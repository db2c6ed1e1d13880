/** A verifier of code for a machine with a stack. */
public final class FramemapHouse {
    private static final int NONE = -1;

    private static final int MOST_KINDS = 10;
    private static final int MOST_FIELDS = 10;
    private static final int MOST_METHODS = 6;
    private static final int MOST_PLACES = 24;
    private static final int MOST_HANDLERS = 4;
    private static final int MOST_LOCKS_TOLD = 9;
    private static final int MOST_NUMBER = 99;
    private static final int MOST_STEPS = 200;
    // A run makes at most one object a step, beside its own one and two arguments.
    private static final int MOST_OBJECTS = MOST_STEPS + 3;
    // No code comes near this: words can change but some ten times each.
    private static final int MOST_ROUNDS = 1000000;
    private static final int LOCALS = 6;
    private static final int STACK = 6;
    private static final int WORDS = LOCALS + STACK;

    private static final int OBJECT = 0;
    private static final int MOST_PACKAGE = 3;
    private static final int OPEN = 0;
    private static final int PROTECTED = 2;
    private static final int OWN = 3;

    private static final int TYPE_INT = 0;
    private static final int TYPE_LONG = 1;

    // A reference has one number as a type and as a mark.
    private static final int NOTHING = 0;
    private static final int INT = 1;
    private static final int LONG = 2;
    private static final int SECOND = 3;
    private static final int NULL = 4;
    private static final int HALF = 5;
    private static final int REFERENCE = 10;
    private static final int MADE = 100;

    // What a taken word has to be, where that is no mark for which it has to be fit.
    private static final int ANYTHING = -1;
    private static final int ANY_REFERENCE = -2;
    private static final int STORABLE = -3;
    private static final int SINGLE = -4;

    private static final int OP_INT = 0;
    private static final int OP_LONG = 1;
    private static final int OP_NULL = 2;
    private static final int LOAD_INT = 3;
    private static final int LOAD_LONG = 4;
    private static final int LOAD_REFERENCE = 5;
    private static final int STORE_INT = 6;
    private static final int STORE_LONG = 7;
    private static final int STORE_REFERENCE = 8;
    private static final int ADD_INTS = 9;
    private static final int ADD_LONGS = 10;
    private static final int POP = 11;
    private static final int DOUBLE = 12;
    private static final int CHANGE = 13;
    private static final int GO = 14;
    private static final int GO_ZERO = 15;
    private static final int GO_NULL = 16;
    private static final int NEW = 17;
    private static final int INIT = 18;
    private static final int CALL = 19;
    private static final int GET = 20;
    private static final int PUT = 21;
    private static final int CAST = 22;
    private static final int GIVE_INT = 23;
    private static final int GIVE_LONG = 24;
    private static final int GIVE_REFERENCE = 25;
    private static final int GIVE_NOTHING = 26;
    private static final int THROW = 27;
    private static final int LOCK = 28;
    private static final int FREE = 29;

    private static final int TOO_FEW_OR_MANY = 1;
    private static final int WRONG_WORD = 2;
    private static final int WRONG_LOCAL = 3;
    private static final int NO_WAY = 4;
    private static final int UNMET = 5;
    private static final int KEPT_OUT = 6;
    private static final int UNMADE = 7;
    private static final int WRONG_RESULT = 8;
    private static final int WRONG_LOCKS = 9;
    private static final int UNSUITED = 10;
    private static final int NO_CODE = 11;

    private static final int DEAD = 0;
    private static final int HERE = 1;
    private static final int BROKEN = 2;

    private static final int GAVE = 0;
    private static final int THROWN = 1;
    private static final int GOES_ON = 2;
    private static final int WRONG = 3;

    private static final long DIGEST_START = 58139;
    private static final long DIGEST_FACTOR = 31;

    private final World world = new World();
    private final Rules rules = new Rules(world);
    private final Ways ways = new Ways(world, rules);
    private final MapPass mapPass = new MapPass(world, rules);
    private final Machine machine = new Machine(world, rules);

    public FramemapHouse() {
    }

    // ---- classes

    public int kind(int parent, boolean isInterface, int where)
            throws IllegalArgumentException, IllegalStateException {
        if (!world.isPlainKind(parent) || (isInterface && parent != OBJECT) || where < 0 || where > MOST_PACKAGE) {
            throw new IllegalArgumentException("no such parent or package");
        }
        if (world.kindCount >= MOST_KINDS) {
            throw new IllegalStateException("there are 10 classes");
        }
        return world.tellKind(parent, isInterface, where);
    }

    public int field(int kind, int type, int access)
            throws IndexOutOfBoundsException, IllegalArgumentException, IllegalStateException {
        if (!world.hasKind(kind)) {
            throw new IndexOutOfBoundsException("no such class");
        }
        if (!world.isPlainKind(kind) || !world.isType(type) || !isAccess(access)) {
            throw new IllegalArgumentException("an interface, or no such type or access");
        }
        if (world.fieldCount >= MOST_FIELDS) {
            throw new IllegalStateException("there are 10 fields");
        }
        return world.tellField(kind, type, access);
    }

    public int method(int kind, boolean isConstructor, int first, int second, int result)
            throws IndexOutOfBoundsException, IllegalArgumentException, IllegalStateException {
        if (!world.hasKind(kind)) {
            throw new IndexOutOfBoundsException("no such class");
        }
        if (!world.isPlainKind(kind) || !world.isTypeOrNone(first) || !world.isTypeOrNone(second)
                || !world.isTypeOrNone(result) || (first == NONE && second != NONE)
                || (isConstructor && result != NONE)) {
            throw new IllegalArgumentException("an interface, or no such types");
        }
        if (world.methodCount >= MOST_METHODS) {
            throw new IllegalStateException("there are 6 methods");
        }
        int number = world.addMethod();
        world.methodAt(number).tell(kind, isConstructor, first, second, result);
        return number;
    }

    public boolean isBelow(int one, int other) throws IndexOutOfBoundsException {
        if (!world.hasKind(one) || !world.hasKind(other)) {
            throw new IndexOutOfBoundsException("no such class");
        }
        return world.isUnder(one, other);
    }

    public boolean isFit(int one, int other) throws IllegalArgumentException {
        if (!world.isMark(one) || !world.isMark(other)) {
            throw new IllegalArgumentException("no mark");
        }
        return world.fits(one, other);
    }

    public int common(int one, int other) throws IllegalArgumentException {
        if (!world.isMark(one) || !world.isMark(other)) {
            throw new IllegalArgumentException("no mark");
        }
        return world.sharedMark(one, other);
    }

    // ---- code

    public int add(int method, int op, int a)
            throws IndexOutOfBoundsException, IllegalArgumentException, IllegalStateException {
        Method told = toldMethod(method);
        if (!world.isInstruction(op, a)) {
            throw new IllegalArgumentException("no instruction");
        }
        if (told.length >= MOST_PLACES) {
            throw new IllegalStateException("there are 24 instructions");
        }
        int place = told.length;
        told.length++;
        told.setInstruction(place, op, a);
        return place;
    }

    public int put(int method, int place, int op, int a)
            throws IndexOutOfBoundsException, IllegalArgumentException {
        Method told = toldMethodWith(method, place);
        if (!world.isInstruction(op, a)) {
            throw new IllegalArgumentException("no instruction");
        }
        int before = told.opAt(place);
        told.setInstruction(place, op, a);
        return before;
    }

    public int cut(int method) throws IndexOutOfBoundsException, IllegalStateException {
        Method told = toldMethod(method);
        if (told.length <= 0) {
            throw new IllegalStateException("no instruction");
        }
        int op = told.opAt(told.length - 1);
        told.length--;
        return op;
    }

    public int handler(int method, int from, int to, int target, int kind)
            throws IndexOutOfBoundsException, IllegalArgumentException, IllegalStateException {
        Method told = toldMethod(method);
        if (!world.hasKind(kind)) {
            throw new IndexOutOfBoundsException("no such class");
        }
        if (!isPlace(from) || to <= from || to > MOST_PLACES || !isPlace(target)) {
            throw new IllegalArgumentException("no such range or target");
        }
        if (told.handlerCount >= MOST_HANDLERS) {
            throw new IllegalStateException("there are 4 handlers");
        }
        told.addHandler(from, to, target, kind);
        return told.handlerCount;
    }

    public int clear(int method) throws IndexOutOfBoundsException {
        Method told = toldMethod(method);
        int before = told.handlerCount;
        told.handlerCount = 0;
        return before;
    }

    public int map(int method, int place, int words, int locks, boolean isDone)
            throws IndexOutOfBoundsException, IllegalArgumentException {
        Method told = toldMethod(method);
        if (!isPlace(place) || words < 0 || words > STACK || locks < 0 || locks > MOST_LOCKS_TOLD) {
            throw new IllegalArgumentException("no such place, words or locks");
        }
        told.mapAt(place).beginEmpty(words, locks, isDone);
        return told.countMaps();
    }

    public int word(int method, int place, int word, int mark)
            throws IndexOutOfBoundsException, IllegalArgumentException {
        Method told = toldMethod(method);
        Frame frame = told.mapAt(place);
        if (frame.state != HERE || !frame.hasWord(word)) {
            throw new IndexOutOfBoundsException("no such map or word");
        }
        if (!world.isMark(mark)) {
            throw new IllegalArgumentException("no mark");
        }
        int before = frame.markAt(word);
        frame.setMark(word, mark);
        return before;
    }

    public int suggest(int method) throws IndexOutOfBoundsException {
        Method told = toldMethod(method);
        ways.solve(told);
        for (int place = 0; place < MOST_PLACES; place++) {
            Frame found = ways.frameAt(place);
            Frame kept = told.mapAt(place);
            kept.state = DEAD;
            if (found.state == HERE && told.wantsMap(place)) {
                kept.copyFrom(found);
            }
        }
        return told.countMaps();
    }

    // ---- what is found

    public int ofMethod(int method, int what) throws IndexOutOfBoundsException, IllegalArgumentException {
        Method told = toldMethod(method);
        if (what < 0 || what > 8) {
            throw new IllegalArgumentException("no such question");
        }
        ways.solve(told);
        mapPass.judge(told);
        return factOfMethod(told, what);
    }

    public int ofFrame(int method, int place, int what)
            throws IndexOutOfBoundsException, IllegalArgumentException {
        Method told = toldMethodWith(method, place);
        if (what < 0 || what > 4) {
            throw new IllegalArgumentException("no such question");
        }
        ways.solve(told);
        return factOfFrame(place, what);
    }

    public int mark(int method, int place, int word) throws IndexOutOfBoundsException {
        Method told = toldMethodWith(method, place);
        ways.solve(told);
        Frame frame = ways.frameAt(place);
        if (frame.state != HERE || !frame.hasWord(word)) {
            throw new IndexOutOfBoundsException("no such frame or word");
        }
        return frame.markAt(word);
    }

    public int run(int method, int first, int second)
            throws IndexOutOfBoundsException, IllegalArgumentException, IllegalStateException {
        Method told = toldMethod(method);
        if (!world.isGivenFor(told.first, first) || !world.isGivenFor(told.second, second)) {
            throw new IllegalArgumentException("no such argument");
        }
        if (told.length == 0) {
            throw new IllegalStateException("no code");
        }
        machine.perform(told, first, second);
        return machine.outcome;
    }

    public int ofRun(int what) throws IllegalArgumentException {
        if (what < 0 || what > 8) {
            throw new IllegalArgumentException("no such question");
        }
        return machine.factOf(what);
    }

    public int many(int what) throws IllegalArgumentException {
        if (what < 0 || what > 6) {
            throw new IllegalArgumentException("no such question");
        }
        return countOf(what);
    }

    public double meanWords(int method) throws IndexOutOfBoundsException {
        Method told = toldMethod(method);
        ways.solve(told);
        int frames = ways.countState(HERE);
        if (frames == 0) {
            return 0;
        }
        return (double) ways.sumWords() / (double) frames;
    }

    // ---- what would be (nothing is changed)

    public int verdictWith(int method, int place, int op, int a)
            throws IndexOutOfBoundsException, IllegalArgumentException {
        Method told = toldMethodWith(method, place);
        if (!world.isInstruction(op, a)) {
            throw new IllegalArgumentException("no instruction");
        }
        int opBefore = told.opAt(place);
        int argumentBefore = told.argumentAt(place);
        told.setInstruction(place, op, a);
        ways.solve(told);
        told.setInstruction(place, opBefore, argumentBefore);
        return ways.verdict;
    }

    public int verdictBare(int method) throws IndexOutOfBoundsException {
        return bareVerdict(toldMethod(method));
    }

    public int verdictBy(int method, int field, int access)
            throws IndexOutOfBoundsException, IllegalArgumentException {
        Method told = toldMethod(method);
        if (!world.hasField(field)) {
            throw new IndexOutOfBoundsException("no such field");
        }
        if (!isAccess(access)) {
            throw new IllegalArgumentException("no such access");
        }
        int before = world.fieldAccess(field);
        world.setFieldAccess(field, access);
        ways.solve(told);
        world.setFieldAccess(field, before);
        return ways.verdict;
    }

    public long digest() {
        long sum = DIGEST_START;
        for (int what = 0; what <= 6; what++) {
            sum = sum * DIGEST_FACTOR + countOf(what);
        }
        for (int number = 0; number < world.methodCount; number++) {
            Method told = world.methodAt(number);
            sum = digestFacts(sum, told);
            sum = sum * DIGEST_FACTOR + bareVerdict(told);
            sum = digestFrames(sum, told);
        }
        for (int what = 0; what <= 8; what++) {
            sum = sum * DIGEST_FACTOR + machine.factOf(what);
        }
        return sum;
    }

    private long digestFacts(long start, Method told) {
        long sum = start;
        ways.solve(told);
        mapPass.judge(told);
        for (int what = 0; what <= 8; what++) {
            sum = sum * DIGEST_FACTOR + factOfMethod(told, what);
        }
        return sum;
    }

    private long digestFrames(long start, Method told) {
        long sum = start;
        ways.solve(told);
        for (int place = 0; place < told.length; place++) {
            for (int what = 0; what <= 4; what++) {
                sum = sum * DIGEST_FACTOR + factOfFrame(place, what);
            }
            Frame frame = ways.frameAt(place);
            int words = frame.state == HERE ? LOCALS + frame.words : 0;
            for (int word = 0; word < words; word++) {
                sum = sum * DIGEST_FACTOR + frame.markAt(word);
            }
        }
        return sum;
    }

    private int bareVerdict(Method told) {
        int before = told.handlerCount;
        told.handlerCount = 0;
        ways.solve(told);
        told.handlerCount = before;
        return ways.verdict;
    }

    private Method toldMethod(int number) {
        if (!world.hasMethod(number)) {
            throw new IndexOutOfBoundsException("no such method");
        }
        return world.methodAt(number);
    }

    private Method toldMethodWith(int number, int place) {
        Method told = toldMethod(number);
        if (!told.hasPlace(place)) {
            throw new IndexOutOfBoundsException("no such instruction");
        }
        return told;
    }

    /** Of a method for which the ways and the maps have just been asked. */
    private int factOfMethod(Method told, int what) {
        switch (what) {
            case 0: return ways.verdict;
            case 1: return ways.verdictPlace;
            case 2: return mapPass.verdict;
            case 3: return mapPass.verdictPlace;
            case 4: return told.length - ways.countState(HERE) - ways.countState(BROKEN);
            case 5: return ways.countState(BROKEN);
            case 6: return ways.rounds;
            case 7: return told.countMaps();
            default: return told.handlerCount;
        }
    }

    /** Of a method for which the ways have just been asked. */
    private int factOfFrame(int place, int what) {
        Frame frame = ways.frameAt(place);
        if (what == 0) {
            return frame.state;
        }
        if (what == 4) {
            return ways.faultAt(place);
        }
        if (frame.state != HERE) {
            return NONE;
        }
        switch (what) {
            case 1: return frame.words;
            case 2: return frame.locks;
            default: return frame.isDone ? 1 : 0;
        }
    }

    private int countOf(int what) {
        if (what == 0) {
            return world.kindCount;
        }
        if (what == 1) {
            return world.fieldCount;
        }
        if (what == 2) {
            return world.methodCount;
        }
        int count = 0;
        for (int number = 0; number < world.methodCount; number++) {
            Method told = world.methodAt(number);
            if (what == 3) {
                count += told.length;
            } else if (what == 6) {
                count += told.handlerCount;
            } else if (what == 4) {
                ways.solve(told);
                count += ways.verdict == 0 ? 1 : 0;
            } else {
                mapPass.judge(told);
                count += mapPass.verdict == 0 ? 1 : 0;
            }
        }
        return count;
    }

    private static boolean isAccess(int access) {
        return access >= OPEN && access <= OWN;
    }

    private static boolean isPlace(int place) {
        return place >= 0 && place < MOST_PLACES;
    }

    private static boolean isGo(int op) {
        return op >= GO && op <= GO_NULL;
    }

    private static boolean isGive(int op) {
        return op >= GIVE_INT && op <= GIVE_NOTHING;
    }

    private static boolean goesOn(int op) {
        return op != GO && !isGive(op) && op != THROW;
    }

    private static boolean isReference(int mark) {
        return mark >= REFERENCE && mark < REFERENCE + MOST_KINDS;
    }

    private static boolean isUnready(int mark) {
        return mark == HALF || mark >= MADE;
    }

    private static int sizeOf(int type) {
        if (type == NONE) {
            return 0;
        }
        return type == TYPE_LONG ? 2 : 1;
    }

    /** The classes, fields and methods that have been told. */
    private static final class World {
        int kindCount = 1;
        private final int[] parents = new int[MOST_KINDS];
        private final boolean[] interfaces = new boolean[MOST_KINDS];
        private final int[] packages = new int[MOST_KINDS];
        // Bit d of the entry c: the class c is below the class d.
        private final int[] above = new int[MOST_KINDS];
        int fieldCount = 0;
        private final int[] fieldKinds = new int[MOST_FIELDS];
        private final int[] fieldTypes = new int[MOST_FIELDS];
        private final int[] fieldAccesses = new int[MOST_FIELDS];
        int methodCount = 0;
        private final Method[] methods = new Method[MOST_METHODS];
        // Stands in where there is no method, so that none has to be null.
        private final Method noMethod = new Method();

        World() {
            parents[OBJECT] = NONE;
            above[OBJECT] = 1 << OBJECT;
            for (int number = 0; number < MOST_METHODS; number++) {
                methods[number] = new Method();
            }
        }

        int tellKind(int parent, boolean isInterface, int where) {
            int number = kindCount;
            if (number < 0 || number >= MOST_KINDS || !hasKind(parent)) {
                return NONE;
            }
            parents[number] = parent;
            interfaces[number] = isInterface;
            packages[number] = where;
            above[number] = above[parent] | 1 << number;
            kindCount++;
            return number;
        }

        int tellField(int kind, int type, int access) {
            int number = fieldCount;
            if (number < 0 || number >= MOST_FIELDS) {
                return NONE;
            }
            fieldKinds[number] = kind;
            fieldTypes[number] = type;
            fieldAccesses[number] = access;
            fieldCount++;
            return number;
        }

        int addMethod() {
            int number = methodCount;
            if (methodCount < MOST_METHODS) {
                methodCount++;
            }
            return number;
        }

        boolean hasKind(int kind) {
            return kind >= 0 && kind < kindCount && kind < MOST_KINDS;
        }

        boolean isPlainKind(int kind) {
            return hasKind(kind) && !interfaces[kind];
        }

        boolean hasField(int field) {
            return field >= 0 && field < fieldCount && field < MOST_FIELDS;
        }

        int fieldKind(int field) {
            return field >= 0 && field < MOST_FIELDS ? fieldKinds[field] : OBJECT;
        }

        int fieldType(int field) {
            return field >= 0 && field < MOST_FIELDS ? fieldTypes[field] : TYPE_INT;
        }

        int fieldAccess(int field) {
            return field >= 0 && field < MOST_FIELDS ? fieldAccesses[field] : OPEN;
        }

        void setFieldAccess(int field, int access) {
            if (hasField(field)) {
                fieldAccesses[field] = access;
            }
        }

        boolean hasMethod(int number) {
            return number >= 0 && number < methodCount && number < MOST_METHODS;
        }

        Method methodAt(int number) {
            Method found = number >= 0 && number < MOST_METHODS ? methods[number] : noMethod;
            return found == null ? noMethod : found;
        }

        boolean isType(int type) {
            return type == TYPE_INT || type == TYPE_LONG || (type >= REFERENCE && hasKind(type - REFERENCE));
        }

        boolean isTypeOrNone(int type) {
            return type == NONE || isType(type);
        }

        boolean isMark(int mark) {
            return (mark >= NOTHING && mark <= HALF) || (mark >= MADE && mark < MADE + MOST_PLACES)
                    || (mark >= REFERENCE && hasKind(mark - REFERENCE));
        }

        boolean isUnder(int one, int other) {
            return one >= 0 && one < MOST_KINDS && other >= 0 && other < MOST_KINDS
                    && (above[one] >> other & 1) != 0;
        }

        boolean fits(int mark, int wanted) {
            if (mark == wanted || wanted == NOTHING) {
                return true;
            }
            int other = wanted - REFERENCE;
            if (other < 0 || other >= MOST_KINDS) {
                return false;
            }
            if (mark == NULL) {
                return true;
            }
            int one = mark - REFERENCE;
            if (one < 0 || one >= MOST_KINDS) {
                return false;
            }
            return interfaces[other] || (above[one] >> other & 1) != 0;
        }

        int sharedMark(int one, int other) {
            if (one == other) {
                return one;
            }
            if (one == NULL && isReference(other)) {
                return other;
            }
            if (other == NULL && isReference(one)) {
                return one;
            }
            if (!isReference(one) || !isReference(other)) {
                return NOTHING;
            }
            return sharedReference(one - REFERENCE, other - REFERENCE);
        }

        private int sharedReference(int one, int other) {
            if (one < 0 || one >= MOST_KINDS || other < 0 || other >= MOST_KINDS
                    || interfaces[one] || interfaces[other]) {
                return REFERENCE + OBJECT;
            }
            int kind = one;
            for (int step = 0; step < MOST_KINDS && kind > OBJECT && kind < MOST_KINDS; step++) {
                if ((above[other] >> kind & 1) != 0) {
                    return REFERENCE + kind;
                }
                kind = parents[kind];
            }
            return REFERENCE + OBJECT;
        }

        /** Whether a class is another one or the child of that. */
        boolean isSameOrChild(int one, int other) {
            return hasKind(one) && (one == other || parents[one] == other);
        }

        boolean canUse(int kind, int field) {
            int owner = fieldKind(field);
            int access = fieldAccess(field);
            if (kind == owner || access == OPEN) {
                return true;
            }
            if (access == OWN) {
                return false;
            }
            return isOnePackage(kind, owner) || (access == PROTECTED && isUnder(kind, owner));
        }

        /** Whether the field is protected elsewhere, so that the object has to be of the own class. */
        boolean isInherited(int kind, int field) {
            int owner = fieldKind(field);
            return fieldAccess(field) == PROTECTED && kind != owner && isUnder(kind, owner)
                    && !isOnePackage(kind, owner);
        }

        private boolean isOnePackage(int one, int other) {
            return one >= 0 && one < MOST_KINDS && other >= 0 && other < MOST_KINDS
                    && packages[one] == packages[other];
        }

        boolean isInstruction(int op, int a) {
            switch (op) {
                case OP_INT:
                case OP_LONG:
                    return a >= -MOST_NUMBER && a <= MOST_NUMBER;
                case LOAD_INT:
                case LOAD_REFERENCE:
                case STORE_INT:
                case STORE_REFERENCE:
                    return a >= 0 && a < LOCALS;
                case LOAD_LONG:
                case STORE_LONG:
                    return a >= 0 && a < LOCALS - 1;
                case GO:
                case GO_ZERO:
                case GO_NULL:
                    return isPlace(a);
                case NEW:
                    return isPlainKind(a);
                case INIT:
                    return hasMethod(a) && methodAt(a).isConstructor;
                case CALL:
                    return hasMethod(a) && !methodAt(a).isConstructor;
                case GET:
                case PUT:
                    return hasField(a);
                case CAST:
                    return hasKind(a);
                default:
                    return op >= OP_INT && op <= FREE && a == 0;
            }
        }

        /** Whether a run can be given this number for an argument of this type. */
        boolean isGivenFor(int type, int given) {
            if (type == NONE) {
                return given == 0;
            }
            if (!isReference(type) || given == NONE) {
                return true;
            }
            return isPlainKind(given) && fits(REFERENCE + given, type);
        }
    }

    /** A method with its code, its handlers and its maps. */
    private static final class Method {
        int kind = OBJECT;
        boolean isConstructor = false;
        int first = NONE;
        int second = NONE;
        int result = NONE;
        int length = 0;
        private final int[] ops = new int[MOST_PLACES];
        private final int[] arguments = new int[MOST_PLACES];
        int handlerCount = 0;
        private final int[] froms = new int[MOST_HANDLERS];
        private final int[] tos = new int[MOST_HANDLERS];
        private final int[] targets = new int[MOST_HANDLERS];
        private final int[] caughtKinds = new int[MOST_HANDLERS];
        // A dead frame is no map.
        private final Frame[] maps = new Frame[MOST_PLACES];
        private final Frame noMap = new Frame();

        Method() {
            for (int place = 0; place < MOST_PLACES; place++) {
                maps[place] = new Frame();
            }
        }

        void tell(int ownKind, boolean isMaker, int firstType, int secondType, int resultType) {
            kind = ownKind;
            isConstructor = isMaker;
            first = firstType;
            second = secondType;
            result = resultType;
        }

        boolean hasPlace(int place) {
            return place >= 0 && place < length && place < MOST_PLACES;
        }

        int opAt(int place) {
            return hasPlace(place) ? ops[place] : OP_INT;
        }

        int argumentAt(int place) {
            return hasPlace(place) ? arguments[place] : 0;
        }

        void setInstruction(int place, int op, int a) {
            if (hasPlace(place)) {
                ops[place] = op;
                arguments[place] = a;
            }
        }

        boolean isNewOf(int place, int newKind) {
            return hasPlace(place) && ops[place] == NEW && arguments[place] == newKind;
        }

        void addHandler(int from, int to, int target, int caughtKind) {
            int index = handlerCount;
            if (index >= 0 && index < MOST_HANDLERS) {
                froms[index] = from;
                tos[index] = to;
                targets[index] = target;
                caughtKinds[index] = caughtKind;
                handlerCount++;
            }
        }

        private boolean hasHandler(int index) {
            return index >= 0 && index < handlerCount && index < MOST_HANDLERS;
        }

        boolean isInRange(int index, int place) {
            return index >= 0 && index < MOST_HANDLERS && place >= froms[index] && place < tos[index];
        }

        boolean isInAnyRange(int place) {
            for (int index = 0; index < handlerCount; index++) {
                if (isInRange(index, place)) {
                    return true;
                }
            }
            return false;
        }

        int targetOf(int index) {
            return hasHandler(index) ? targets[index] : NONE;
        }

        int caughtKindOf(int index) {
            return hasHandler(index) ? caughtKinds[index] : OBJECT;
        }

        Frame mapAt(int place) {
            Frame found = isPlace(place) ? maps[place] : noMap;
            return found == null ? noMap : found;
        }

        int countMaps() {
            int count = 0;
            for (int place = 0; place < MOST_PLACES; place++) {
                count += mapAt(place).state == HERE ? 1 : 0;
            }
            return count;
        }

        /** Whether a go or a handler leads to the place, or no way comes from the one ahead of it. */
        boolean wantsMap(int place) {
            if (place > 0 && hasPlace(place - 1) && !goesOn(opAt(place - 1))) {
                return true;
            }
            for (int index = 0; index < handlerCount; index++) {
                if (targetOf(index) == place) {
                    return true;
                }
            }
            for (int from = 0; from < length; from++) {
                if (isGo(opAt(from)) && argumentAt(from) == place) {
                    return true;
                }
            }
            return false;
        }
    }

    /** Marks of the locals and of the words on the stack, ahead of an instruction. */
    private static final class Frame {
        int state = DEAD;
        int words = 0;
        int locks = 0;
        boolean isDone = false;
        private final int[] marks = new int[WORDS];

        int markAt(int word) {
            return word >= 0 && word < WORDS ? marks[word] : NOTHING;
        }

        void setMark(int word, int mark) {
            if (word >= 0 && word < WORDS) {
                marks[word] = mark;
            }
        }

        boolean hasWord(int word) {
            return word >= 0 && word < LOCALS + words;
        }

        void copyFrom(Frame other) {
            state = other.state;
            words = other.words;
            locks = other.locks;
            isDone = other.isDone;
            for (int word = 0; word < WORDS; word++) {
                marks[word] = other.marks[word];
            }
        }

        void beginEmpty(int manyWords, int manyLocks, boolean isFinished) {
            state = HERE;
            words = manyWords;
            locks = manyLocks;
            isDone = isFinished;
            for (int word = 0; word < WORDS; word++) {
                marks[word] = NOTHING;
            }
        }

        void beginMethod(Method told) {
            beginEmpty(0, 0, !told.isConstructor);
            setMark(0, told.isConstructor ? HALF : REFERENCE + told.kind);
            setType(1, told.first);
            setType(1 + sizeOf(told.first), told.second);
        }

        private void setType(int word, int type) {
            if (type == TYPE_INT) {
                setMark(word, INT);
            } else if (type == TYPE_LONG) {
                setMark(word, LONG);
                setMark(word + 1, SECOND);
            } else if (isReference(type)) {
                setMark(word, type);
            }
        }

        /** What goes to a handler; from a broken frame that is a broken one. */
        void catchFrom(Frame other, int caughtKind) {
            copyFrom(other);
            words = 0;
            push(REFERENCE + caughtKind);
        }

        void push(int mark) {
            if (words >= 0 && words < STACK) {
                marks[LOCALS + words] = mark;
                words++;
            }
        }

        void pushType(int type) {
            if (type == TYPE_INT) {
                push(INT);
            } else if (type == TYPE_LONG) {
                push(LONG);
                push(SECOND);
            } else if (isReference(type)) {
                push(type);
            }
        }

        void drop(int count) {
            words = Math.max(0, words - count);
        }

        /** Puts a mark into a local; what is left of a long of which that was a part is nothing then. */
        void storeMark(int local, int mark) {
            if (local < 0 || local >= LOCALS) {
                return;
            }
            marks[local] = mark;
            if (local > 0 && marks[local - 1] == LONG) {
                marks[local - 1] = NOTHING;
            }
            if (local + 1 < LOCALS && marks[local + 1] == SECOND) {
                marks[local + 1] = NOTHING;
            }
        }

        void storeLong(int local) {
            storeMark(local, NOTHING);
            storeMark(local + 1, NOTHING);
            setMark(local, LONG);
            setMark(local + 1, SECOND);
        }

        void replaceMark(int before, int after) {
            for (int word = 0; word < WORDS; word++) {
                if (marks[word] == before) {
                    marks[word] = after;
                }
            }
        }

        void forgetInLocals(int mark) {
            for (int local = 0; local < LOCALS; local++) {
                if (marks[local] == mark) {
                    marks[local] = NOTHING;
                }
            }
        }

        boolean isOnStack(int mark) {
            for (int word = LOCALS; word < LOCALS + words; word++) {
                if (markAt(word) == mark) {
                    return true;
                }
            }
            return false;
        }

        boolean hasUnready() {
            for (int word = 0; word < LOCALS + words; word++) {
                if (isUnready(markAt(word))) {
                    return true;
                }
            }
            return false;
        }
    }

    /** What an instruction does to a frame, and what is wrong with it. */
    private static final class Rules {
        private final World world;
        // What the words that the instruction takes have to be, from below.
        private final int[] taken = new int[STACK];
        private int takenCount = 0;

        Rules(World told) {
            world = told;
        }

        int countTaken(Method told, int place) {
            listTaken(told, told.opAt(place), told.argumentAt(place));
            return takenCount;
        }

        private void listTaken(Method told, int op, int a) {
            takenCount = 0;
            switch (op) {
                case STORE_INT:
                case GO_ZERO:
                case GIVE_INT:
                    takeType(TYPE_INT);
                    break;
                case STORE_LONG:
                case GIVE_LONG:
                    takeType(TYPE_LONG);
                    break;
                case STORE_REFERENCE:
                    take(STORABLE);
                    break;
                case ADD_INTS:
                    takeType(TYPE_INT);
                    takeType(TYPE_INT);
                    break;
                case ADD_LONGS:
                    takeType(TYPE_LONG);
                    takeType(TYPE_LONG);
                    break;
                case POP:
                case DOUBLE:
                    take(SINGLE);
                    break;
                case CHANGE:
                    take(SINGLE);
                    take(SINGLE);
                    break;
                case INIT:
                case CALL:
                    take(op == INIT ? ANYTHING : REFERENCE + world.methodAt(a).kind);
                    takeType(world.methodAt(a).first);
                    takeType(world.methodAt(a).second);
                    break;
                case GET:
                    take(REFERENCE + world.fieldKind(a));
                    break;
                case PUT:
                    take(REFERENCE + world.fieldKind(a));
                    takeType(world.fieldType(a));
                    break;
                case GO_NULL:
                case CAST:
                case THROW:
                case LOCK:
                case FREE:
                    take(ANY_REFERENCE);
                    break;
                case GIVE_REFERENCE:
                    take(isReference(told.result) ? told.result : ANY_REFERENCE);
                    break;
                default:
                    break;
            }
        }

        private void take(int wanted) {
            if (takenCount >= 0 && takenCount < STACK) {
                taken[takenCount] = wanted;
                takenCount++;
            }
        }

        private void takeType(int type) {
            if (type == TYPE_INT) {
                take(INT);
            } else if (type == TYPE_LONG) {
                take(LONG);
                take(SECOND);
            } else if (isReference(type)) {
                take(type);
            }
        }

        private int countPushed(int op, int a) {
            switch (op) {
                case OP_INT:
                case OP_NULL:
                case LOAD_INT:
                case LOAD_REFERENCE:
                case ADD_INTS:
                case NEW:
                case CAST:
                    return 1;
                case OP_LONG:
                case LOAD_LONG:
                case ADD_LONGS:
                case DOUBLE:
                case CHANGE:
                    return 2;
                case CALL:
                    return sizeOf(world.methodAt(a).result);
                case GET:
                    return sizeOf(world.fieldType(a));
                default:
                    return 0;
            }
        }

        /** The set of all faults, as bits, ahead of an instruction with a frame that is not broken. */
        int findFaults(Method told, int place, Frame frame, boolean isRun) {
            int op = told.opAt(place);
            int a = told.argumentAt(place);
            listTaken(told, op, a);
            int base = frame.words - takenCount;
            if (base < 0 || base + countPushed(op, a) > STACK) {
                return 1 << TOO_FEW_OR_MANY;
            }
            int object = frame.markAt(LOCALS + base);
            int faults = 0;
            faults |= isWrongWord(frame, base) ? 1 << WRONG_WORD : 0;
            faults |= isWrongLoad(frame, op, a) ? 1 << WRONG_LOCAL : 0;
            faults |= isNoWay(told, place) ? 1 << NO_WAY : 0;
            faults |= isKeptOut(told, place, object) ? 1 << KEPT_OUT : 0;
            if (op == INIT) {
                faults |= canInit(told, a, object) ? 0 : 1 << UNMADE;
            } else if (!isRun || isGive(op)) {
                faults |= isUnmade(told, place, frame) ? 1 << UNMADE : 0;
            }
            faults |= isWrongGive(told, op) ? 1 << WRONG_RESULT : 0;
            faults |= isWrongLock(told, place, frame.locks) ? 1 << WRONG_LOCKS : 0;
            return faults;
        }

        /** The one of a set of faults that is told: the least one; 0 without any. */
        int firstOf(int faults) {
            for (int fault = TOO_FEW_OR_MANY; fault <= NO_CODE; fault++) {
                if ((faults >> fault & 1) != 0) {
                    return fault;
                }
            }
            return 0;
        }

        private boolean isWrongWord(Frame frame, int base) {
            for (int index = 0; index < takenCount && index < STACK; index++) {
                if (!isAsWanted(frame.markAt(LOCALS + base + index), taken[index])) {
                    return true;
                }
            }
            return false;
        }

        private boolean isAsWanted(int mark, int wanted) {
            switch (wanted) {
                case ANYTHING:
                    return true;
                case ANY_REFERENCE:
                    return mark == NULL || isReference(mark);
                case STORABLE:
                    return mark == NULL || isReference(mark) || isUnready(mark);
                case SINGLE:
                    return mark != NOTHING && mark != LONG && mark != SECOND;
                default:
                    return world.fits(mark, wanted);
            }
        }

        private boolean isWrongLoad(Frame frame, int op, int a) {
            int mark = frame.markAt(a);
            switch (op) {
                case LOAD_INT:
                    return mark != INT;
                case LOAD_LONG:
                    return mark != LONG || frame.markAt(a + 1) != SECOND;
                case LOAD_REFERENCE:
                    return mark != NULL && !isReference(mark) && !isUnready(mark);
                default:
                    return false;
            }
        }

        private boolean isNoWay(Method told, int place) {
            int op = told.opAt(place);
            return (isGo(op) && !told.hasPlace(told.argumentAt(place)))
                    || (goesOn(op) && !told.hasPlace(place + 1));
        }

        private boolean isKeptOut(Method told, int place, int object) {
            int op = told.opAt(place);
            if (op != GET && op != PUT) {
                return false;
            }
            int field = told.argumentAt(place);
            return !world.canUse(told.kind, field)
                    || (world.isInherited(told.kind, field) && !world.fits(object, REFERENCE + told.kind));
        }

        private boolean canInit(Method told, int constructor, int object) {
            int made = world.methodAt(constructor).kind;
            if (object == HALF) {
                return world.isSameOrChild(told.kind, made);
            }
            return object >= MADE && told.isNewOf(object - MADE, made);
        }

        /** The fault 7 of all but INIT. */
        private boolean isUnmade(Method told, int place, Frame frame) {
            int op = told.opAt(place);
            if (op == NEW) {
                return frame.isOnStack(MADE + place);
            }
            if (isGo(op)) {
                return told.argumentAt(place) <= place && frame.hasUnready();
            }
            return isGive(op) && told.isConstructor && !frame.isDone;
        }

        private boolean isWrongGive(Method told, int op) {
            switch (op) {
                case GIVE_INT:
                    return told.result != TYPE_INT;
                case GIVE_LONG:
                    return told.result != TYPE_LONG;
                case GIVE_REFERENCE:
                    return !isReference(told.result);
                case GIVE_NOTHING:
                    return told.result != NONE;
                default:
                    return false;
            }
        }

        private boolean isWrongLock(Method told, int place, int locks) {
            int op = told.opAt(place);
            if (op == FREE) {
                return locks == 0;
            }
            if (isGive(op)) {
                return locks > 0;
            }
            return op == THROW && locks > 0 && !told.isInAnyRange(place);
        }

        /** Makes of a frame what comes of it, with the faults that findFaults told. */
        void act(Method told, int place, Frame frame, int faults) {
            if ((faults >> TOO_FEW_OR_MANY & 1) != 0) {
                frame.state = BROKEN;
                return;
            }
            int op = told.opAt(place);
            int a = told.argumentAt(place);
            listTaken(told, op, a);
            int low = frame.markAt(LOCALS + frame.words - takenCount);
            int high = frame.markAt(LOCALS + frame.words - 1);
            frame.drop(takenCount);
            if (op <= STORE_REFERENCE) {
                actOnLocals(frame, op, a, low, faults);
                return;
            }
            switch (op) {
                case ADD_INTS:
                    frame.push(INT);
                    break;
                case ADD_LONGS:
                    frame.pushType(TYPE_LONG);
                    break;
                case DOUBLE:
                case CHANGE:
                    frame.push(high);
                    frame.push(low);
                    break;
                case NEW:
                    frame.forgetInLocals(MADE + place);
                    frame.push(MADE + place);
                    break;
                case INIT:
                    if ((faults >> UNMADE & 1) == 0) {
                        makeReady(told, frame, a, low);
                    }
                    break;
                case CALL:
                    frame.pushType(world.methodAt(a).result);
                    break;
                case GET:
                    frame.pushType(world.fieldType(a));
                    break;
                case CAST:
                    frame.push(REFERENCE + a);
                    break;
                case LOCK:
                    frame.locks++;
                    break;
                case FREE:
                    frame.locks = Math.max(0, frame.locks - 1);
                    break;
                default:
                    break;
            }
        }

        private void actOnLocals(Frame frame, int op, int a, int low, int faults) {
            switch (op) {
                case OP_INT:
                case LOAD_INT:
                    frame.push(INT);
                    break;
                case OP_LONG:
                case LOAD_LONG:
                    frame.pushType(TYPE_LONG);
                    break;
                case OP_NULL:
                    frame.push(NULL);
                    break;
                case LOAD_REFERENCE:
                    frame.push((faults >> WRONG_LOCAL & 1) != 0 ? NOTHING : frame.markAt(a));
                    break;
                case STORE_INT:
                    frame.storeMark(a, INT);
                    break;
                case STORE_LONG:
                    frame.storeLong(a);
                    break;
                default:
                    frame.storeMark(a, (faults >> WRONG_WORD & 1) != 0 ? NOTHING : low);
                    break;
            }
        }

        private void makeReady(Method told, Frame frame, int constructor, int object) {
            if (object == HALF) {
                frame.replaceMark(HALF, REFERENCE + told.kind);
                frame.isDone = true;
            } else {
                frame.replaceMark(object, REFERENCE + world.methodAt(constructor).kind);
            }
        }
    }

    /** The frames by ways, of the method that was asked for last. */
    private static final class Ways {
        private final World world;
        private final Rules rules;
        private final Frame[] frames = new Frame[MOST_PLACES];
        private final boolean[] unmet = new boolean[MOST_PLACES];
        private final int[] faults = new int[MOST_PLACES];
        private final Frame passing = new Frame();
        private final Frame noFrame = new Frame();
        private boolean isChanged = false;
        int rounds = 0;
        int verdict = NO_CODE;
        int verdictPlace = NONE;

        Ways(World told, Rules known) {
            world = told;
            rules = known;
            for (int place = 0; place < MOST_PLACES; place++) {
                frames[place] = new Frame();
            }
        }

        Frame frameAt(int place) {
            Frame found = isPlace(place) ? frames[place] : noFrame;
            return found == null ? noFrame : found;
        }

        int faultAt(int place) {
            return isPlace(place) ? faults[place] : 0;
        }

        int countState(int state) {
            int count = 0;
            for (int place = 0; place < MOST_PLACES; place++) {
                count += frameAt(place).state == state ? 1 : 0;
            }
            return count;
        }

        int sumWords() {
            int sum = 0;
            for (int place = 0; place < MOST_PLACES; place++) {
                Frame frame = frameAt(place);
                sum += frame.state == HERE ? frame.words : 0;
            }
            return sum;
        }

        void solve(Method told) {
            forget();
            if (told.length == 0) {
                verdict = NO_CODE;
                return;
            }
            frameAt(0).beginMethod(told);
            isChanged = true;
            while (isChanged && rounds < MOST_ROUNDS) {
                isChanged = false;
                rounds++;
                for (int place = 0; place < told.length; place++) {
                    if (frameAt(place).state != DEAD) {
                        passOn(told, place);
                    }
                }
            }
            tellVerdict(told);
        }

        private void forget() {
            rounds = 0;
            verdict = 0;
            verdictPlace = NONE;
            for (int place = 0; place < MOST_PLACES; place++) {
                frameAt(place).state = DEAD;
                unmet[place] = false;
                faults[place] = 0;
            }
        }

        private void passOn(Method told, int place) {
            Frame frame = frameAt(place);
            for (int index = 0; index < told.handlerCount; index++) {
                if (told.isInRange(index, place) && told.hasPlace(told.targetOf(index))) {
                    passing.catchFrom(frame, told.caughtKindOf(index));
                    arrive(told.targetOf(index));
                }
            }
            // The handlers may lead back here, so that the frame is looked at only now.
            passing.copyFrom(frame);
            if (passing.state == HERE) {
                rules.act(told, place, passing, rules.findFaults(told, place, passing, false));
            }
            int op = told.opAt(place);
            if (goesOn(op) && told.hasPlace(place + 1)) {
                arrive(place + 1);
            }
            if (isGo(op) && told.hasPlace(told.argumentAt(place))) {
                arrive(told.argumentAt(place));
            }
        }

        /** Lets what is passing come to a place. */
        private void arrive(int place) {
            Frame frame = frameAt(place);
            if (frame.state == BROKEN) {
                return;
            }
            if (frame.state == DEAD) {
                frame.copyFrom(passing);
                isChanged = true;
            } else if (passing.state == BROKEN) {
                frame.state = BROKEN;
                isChanged = true;
            } else if (frame.words != passing.words || frame.locks != passing.locks) {
                frame.state = BROKEN;
                isChanged = true;
                if (isPlace(place)) {
                    unmet[place] = true;
                }
            } else {
                meet(frame);
            }
        }

        private void meet(Frame frame) {
            for (int word = 0; word < LOCALS + frame.words; word++) {
                int before = frame.markAt(word);
                int after = world.sharedMark(before, passing.markAt(word));
                if (after != before) {
                    frame.setMark(word, after);
                    isChanged = true;
                }
            }
            if (frame.isDone && !passing.isDone) {
                frame.isDone = false;
                isChanged = true;
            }
        }

        private void tellVerdict(Method told) {
            int firstBroken = NONE;
            for (int place = told.length - 1; place >= 0; place--) {
                Frame frame = frameAt(place);
                int fault = 0;
                if (frame.state == HERE) {
                    fault = rules.firstOf(rules.findFaults(told, place, frame, false));
                } else if (frame.state == BROKEN) {
                    firstBroken = place;
                    fault = isPlace(place) && unmet[place] ? UNMET : 0;
                }
                if (fault != 0 && isPlace(place)) {
                    faults[place] = fault;
                    verdict = fault;
                    verdictPlace = place;
                }
            }
            if (verdict == 0 && firstBroken != NONE) {
                verdict = TOO_FEW_OR_MANY;
                verdictPlace = firstBroken;
            }
        }
    }

    /** The verdict by maps, of the method that was asked for last. */
    private static final class MapPass {
        private final World world;
        private final Rules rules;
        private final Frame flow = new Frame();
        private final Frame caught = new Frame();
        // Whether the flow comes from the place ahead.
        private boolean comes = false;
        int verdict = NO_CODE;
        int verdictPlace = NONE;

        MapPass(World told, Rules known) {
            world = told;
            rules = known;
        }

        void judge(Method told) {
            verdict = told.length == 0 ? NO_CODE : 0;
            verdictPlace = NONE;
            flow.beginMethod(told);
            comes = true;
            for (int place = 0; place < told.length && verdict == 0; place++) {
                verdict = findFault(told, place);
                if (verdict != 0) {
                    verdictPlace = place;
                }
            }
        }

        private int findFault(Method told, int place) {
            Frame here = told.mapAt(place);
            if (here.state == HERE) {
                if (comes && !suits(flow, here)) {
                    return UNSUITED;
                }
                flow.copyFrom(here);
            } else if (!comes) {
                return UNSUITED;
            }
            int faults = rules.findFaults(told, place, flow, false);
            if (faults != 0) {
                return rules.firstOf(faults);
            }
            if (!suitsHandlers(told, place)) {
                return UNSUITED;
            }
            rules.act(told, place, flow, faults);
            int op = told.opAt(place);
            if (isGo(op) && !suits(flow, told.mapAt(told.argumentAt(place)))) {
                return UNSUITED;
            }
            comes = goesOn(op);
            return 0;
        }

        private boolean suitsHandlers(Method told, int place) {
            for (int index = 0; index < told.handlerCount; index++) {
                if (told.isInRange(index, place)) {
                    caught.catchFrom(flow, told.caughtKindOf(index));
                    if (!suits(caught, told.mapAt(told.targetOf(index)))) {
                        return false;
                    }
                }
            }
            return true;
        }

        private boolean suits(Frame frame, Frame wanted) {
            if (wanted.state != HERE || frame.words != wanted.words || frame.locks != wanted.locks
                    || (wanted.isDone && !frame.isDone)) {
                return false;
            }
            for (int word = 0; word < LOCALS + frame.words; word++) {
                if (!world.fits(frame.markAt(word), wanted.markAt(word))) {
                    return false;
                }
            }
            return true;
        }
    }

    /** Runs a method, and keeps what is told of the latest run. */
    private static final class Machine {
        private final World world;
        private final Rules rules;
        // The marks of the words; the values stand beside them: a number, or the number of an object.
        private final Frame frame = new Frame();
        private final int[] values = new int[WORDS];
        private final int[] objectKinds = new int[MOST_OBJECTS];
        // Of a reference one more than the number of the object, so that 0 is null.
        private final int[] contents = new int[MOST_OBJECTS * MOST_FIELDS];
        private int objectCount = 0;
        private int place = 0;
        private int doneCount = 0;
        private int given = 0;
        private int thrownKind = 0;
        private int donePlaces = 0;
        private int madeCount = 0;
        private int runCount = 0;
        int outcome = 0;

        Machine(World told, Rules known) {
            world = told;
            rules = known;
        }

        int factOf(int what) {
            switch (what) {
                case 0: return outcome;
                case 1: return place;
                case 2: return doneCount;
                case 3: return given;
                case 4: return thrownKind;
                case 5: return donePlaces;
                case 6: return frame.locks;
                case 7: return madeCount;
                default: return runCount;
            }
        }

        void perform(Method told, int first, int second) {
            begin(told, first, second);
            for (int step = 0; step < MOST_STEPS && outcome == GOES_ON; step++) {
                if (rules.findFaults(told, place, frame, true) != 0) {
                    outcome = WRONG;
                } else {
                    doNext(told);
                }
            }
        }

        private void begin(Method told, int first, int second) {
            objectCount = 0;
            place = 0;
            doneCount = 0;
            given = 0;
            thrownKind = NONE;
            donePlaces = 0;
            madeCount = 0;
            runCount++;
            outcome = GOES_ON;
            frame.beginMethod(told);
            setValue(0, makeObject(told.kind));
            beginArgument(1, told.first, first);
            beginArgument(1 + sizeOf(told.first), told.second, second);
        }

        private void beginArgument(int local, int type, int number) {
            if (!isReference(type)) {
                setValue(local, number);
            } else if (number == NONE) {
                frame.setMark(local, NULL);
                setValue(local, 0);
            } else {
                frame.setMark(local, REFERENCE + number);
                setValue(local, makeObject(number));
            }
        }

        private int makeObject(int kind) {
            int object = objectCount;
            if (object < 0 || object >= MOST_OBJECTS) {
                return 0;
            }
            objectKinds[object] = kind;
            for (int field = 0; field < MOST_FIELDS; field++) {
                contents[object * MOST_FIELDS + field] = 0;
            }
            objectCount++;
            return object;
        }

        private int kindOf(int object) {
            return object >= 0 && object < MOST_OBJECTS ? objectKinds[object] : OBJECT;
        }

        private int contentOf(int object, int field) {
            if (object < 0 || object >= MOST_OBJECTS || field < 0 || field >= MOST_FIELDS) {
                return 0;
            }
            return contents[object * MOST_FIELDS + field];
        }

        private void setContent(int object, int field, int content) {
            if (object >= 0 && object < MOST_OBJECTS && field >= 0 && field < MOST_FIELDS) {
                contents[object * MOST_FIELDS + field] = content;
            }
        }

        private int valueAt(int word) {
            return word >= 0 && word < WORDS ? values[word] : 0;
        }

        private void setValue(int word, int value) {
            if (word >= 0 && word < WORDS) {
                values[word] = value;
            }
        }

        private void pushValue(int mark, int value) {
            setValue(LOCALS + frame.words, value);
            frame.push(mark);
        }

        private void pushLong(int value) {
            pushValue(LONG, value);
            pushValue(SECOND, 0);
        }

        private void pushContent(int type, int content) {
            if (type == TYPE_INT) {
                pushValue(INT, content);
            } else if (type == TYPE_LONG) {
                pushLong(content);
            } else if (isReference(type)) {
                if (content == 0) {
                    pushValue(NULL, 0);
                } else {
                    pushValue(REFERENCE + kindOf(content - 1), content - 1);
                }
            }
        }

        /** Does an instruction that has no fault. */
        private void doNext(Method told) {
            int op = told.opAt(place);
            int a = told.argumentAt(place);
            int low = LOCALS + frame.words - rules.countTaken(told, place);
            doneCount++;
            donePlaces |= 1 << place;
            if (isThrowing(op, a, low)) {
                int object = op == THROW && frame.markAt(low) != NULL ? valueAt(low) : makeObject(OBJECT);
                throwTo(told, object);
                return;
            }
            int next = nextPlace(op, a, low);
            if (isGive(op)) {
                give(op, low);
            } else if (op <= STORE_REFERENCE) {
                doOnLocals(op, a, low);
            } else if (op <= GO_NULL) {
                doOnWords(op, low);
            } else {
                doOnObjects(told, op, a, low);
            }
            place = next;
        }

        private boolean isThrowing(int op, int a, int low) {
            boolean isNull = frame.markAt(low) == NULL;
            switch (op) {
                case THROW:
                    return true;
                case CALL:
                case GET:
                case PUT:
                case LOCK:
                case FREE:
                    return isNull;
                case CAST:
                    return !isNull && !world.isUnder(kindOf(valueAt(low)), a);
                default:
                    return false;
            }
        }

        private void throwTo(Method told, int object) {
            thrownKind = kindOf(object);
            for (int index = 0; index < told.handlerCount; index++) {
                int target = told.targetOf(index);
                if (told.isInRange(index, place) && told.hasPlace(target)
                        && world.isUnder(thrownKind, told.caughtKindOf(index))) {
                    frame.words = 0;
                    pushValue(REFERENCE + thrownKind, object);
                    place = target;
                    return;
                }
            }
            outcome = THROWN;
        }

        private int nextPlace(int op, int a, int low) {
            switch (op) {
                case GO:
                    return a;
                case GO_ZERO:
                    return valueAt(low) == 0 ? a : place + 1;
                case GO_NULL:
                    return frame.markAt(low) == NULL ? a : place + 1;
                default:
                    return goesOn(op) ? place + 1 : place;
            }
        }

        private void give(int op, int low) {
            outcome = GAVE;
            if (op == GIVE_NOTHING) {
                given = 0;
            } else if (op != GIVE_REFERENCE) {
                given = valueAt(low);
            } else {
                given = frame.markAt(low) == NULL ? NONE : kindOf(valueAt(low));
            }
        }

        private void doOnLocals(int op, int a, int low) {
            int mark = frame.markAt(low);
            int value = valueAt(low);
            switch (op) {
                case OP_INT:
                    pushValue(INT, a);
                    break;
                case OP_LONG:
                    pushLong(a);
                    break;
                case OP_NULL:
                    pushValue(NULL, 0);
                    break;
                case LOAD_INT:
                case LOAD_REFERENCE:
                    pushValue(frame.markAt(a), valueAt(a));
                    break;
                case LOAD_LONG:
                    pushLong(valueAt(a));
                    break;
                case STORE_LONG:
                    frame.drop(2);
                    frame.storeLong(a);
                    setValue(a, value);
                    break;
                default:
                    frame.drop(1);
                    frame.storeMark(a, mark);
                    setValue(a, value);
                    break;
            }
        }

        private void doOnWords(int op, int low) {
            int mark = frame.markAt(low);
            int value = valueAt(low);
            int highMark = frame.markAt(low + 1);
            int highValue = valueAt(low + 1);
            switch (op) {
                case ADD_INTS:
                    frame.drop(2);
                    pushValue(INT, value + highValue);
                    break;
                case ADD_LONGS:
                    int sum = value + valueAt(low + 2);
                    frame.drop(4);
                    pushLong(sum);
                    break;
                case DOUBLE:
                    pushValue(mark, value);
                    break;
                case CHANGE:
                    frame.drop(2);
                    pushValue(highMark, highValue);
                    pushValue(mark, value);
                    break;
                case POP:
                case GO_ZERO:
                case GO_NULL:
                    frame.drop(1);
                    break;
                default:
                    break;
            }
        }

        private void doOnObjects(Method told, int op, int a, int low) {
            int mark = frame.markAt(low);
            int object = valueAt(low);
            boolean isPutNull = frame.markAt(low + 1) == NULL;
            int put = valueAt(low + 1);
            if (op != CAST) {
                frame.drop(rules.countTaken(told, place));
            }
            switch (op) {
                case NEW:
                    frame.forgetInLocals(MADE + place);
                    pushValue(MADE + place, makeObject(a));
                    madeCount++;
                    break;
                case INIT:
                    finishObject(object);
                    frame.isDone = frame.isDone || mark == HALF;
                    break;
                case CALL:
                    pushContent(world.methodAt(a).result, 0);
                    break;
                case GET:
                    pushContent(world.fieldType(a), contentOf(object, a));
                    break;
                case PUT:
                    if (isReference(world.fieldType(a))) {
                        put = isPutNull ? 0 : put + 1;
                    }
                    setContent(object, a, put);
                    break;
                case LOCK:
                    frame.locks++;
                    break;
                case FREE:
                    frame.locks = Math.max(0, frame.locks - 1);
                    break;
                default:
                    break;
            }
        }

        /** Makes every word that is the object, not others made at its place, a reference to its class. */
        private void finishObject(int object) {
            for (int word = 0; word < LOCALS + frame.words; word++) {
                if (isUnready(frame.markAt(word)) && valueAt(word) == object) {
                    frame.setMark(word, REFERENCE + kindOf(object));
                }
            }
        }
    }
}
