/** What an instruction does, and its fault, as promises 16 to 18 tell it (4 of the terms). */
public final class FaultsTest {
    /** Signatures: class, whether a constructor, arguments, result. */
    private static final int[] PLAIN = {1, 0, -1, -1, -1};
    private static final int[] OF_INT = {1, 0, 0, -1, 0};
    private static final int[] OF_LONG = {1, 0, 1, -1, 1};
    private static final int[] OF_REFERENCES = {1, 0, 11, 14, 11};
    private static final int[] OF_CHILD = {2, 0, 11, 12, -1};
    private static final int[] MAKER = {1, 1, 11, -1, -1};
    private static final int[] CHILD_MAKER = {2, 1, 0, -1, -1};
    private static final int[] OBJECT_MAKER = {0, 1, -1, -1, -1};

    private final Due due = new Due();
    private FramemapHouse house;

    public static void main(String[] args) {
        FaultsTest test = new FaultsTest();
        test.tooFewOrMany();
        test.wrongNumbers();
        test.wrongReferences();
        test.wrongObjects();
        test.wrongSingles();
        test.halvesOfLongs();
        test.wrongLoads();
        test.noWay();
        test.keptOut();
        test.unmadeInit();
        test.unmadeOthers();
        test.wrongResults();
        test.wrongLocks();
        test.firstOfSeveral();
        test.storesIntoLocals();
        test.pushes();
        test.makesReady();
        test.callsWithoutResult();
        test.doneStaysDone();
        test.due.end();
    }

    /** The method under test is number 5; 0, 1 and 3 are constructors of 1, 2 and OBJECT, 4 of 4, 2 is a method. */
    private void build(int[] signature, int... steps) {
        house = new FramemapHouse();
        house.kind(0, false, 0);
        house.kind(1, false, 1);
        house.kind(0, true, 0);
        house.kind(0, false, 0);
        house.field(1, 0, 0);
        house.field(1, 1, 2);
        house.field(1, 14, 3);
        house.field(4, 0, 1);
        house.field(1, 13, 0);
        house.method(1, true, -1, -1, -1);
        house.method(2, true, 0, -1, -1);
        house.method(1, false, 1, 14, 11);
        house.method(0, true, -1, -1, -1);
        house.method(4, true, -1, -1, -1);
        house.method(signature[0], signature[1] == 1, signature[2], signature[3], signature[4]);
        for (int i = 0; i < steps.length; i += 2) {
            house.add(5, steps[i], steps[i + 1]);
        }
    }

    private void fault(String label, int fault, int place, int[] signature, int... steps) {
        build(signature, steps);
        due.same("16: " + label + ": verdict", house.ofMethod(5, 0), fault);
        due.same("16: " + label + ": its place", house.ofMethod(5, 1), place);
        if (place >= 0) {
            due.same("17: " + label + ": at the place", house.ofFrame(5, place, 4), fault);
        }
    }

    private void fine(String label, int[] signature, int... steps) {
        fault(label, 0, -1, signature, steps);
    }

    private void marks(String label, int place, int... marks) {
        due.same("17: " + label + ": words", house.ofFrame(5, place, 1), marks.length - 6);
        for (int word = 0; word < marks.length; word++) {
            due.same("18: " + label + ": word " + word, house.mark(5, place, word), marks[word]);
        }
    }

    private void tooFewOrMany() {
        fault("POP of nothing", 1, 0, PLAIN, 11, 0, 26, 0);
        due.same("17: what comes of it is broken", house.ofFrame(5, 1, 0), 2);
        due.same("17: no words then", house.ofFrame(5, 1, 1), -1);
        due.same("17: no locks then", house.ofFrame(5, 1, 2), -1);
        due.same("17: not done then", house.ofFrame(5, 1, 3), -1);
        due.same("17: without fault", house.ofFrame(5, 1, 4), 0);
        due.same("16: one is broken", house.ofMethod(5, 5), 1);
        fault("ADD of one", 1, 1, PLAIN, 0, 1, 9, 0, 26, 0);
        fault("ADD of a LONG and a half", 1, 2, PLAIN, 1, 1, 0, 1, 10, 0, 26, 0);
        fault("STORE of a LONG of one word", 1, 1, PLAIN, 2, 0, 7, 0, 26, 0);
        fault("CHANGE of one", 1, 1, PLAIN, 2, 0, 13, 0, 26, 0);
        fault("DOUBLE of nothing", 1, 0, PLAIN, 12, 0, 26, 0);
        fault("GIVE a LONG of one word", 1, 1, OF_LONG, 0, 1, 24, 0);
        fault("CALL without an object", 1, 2, OF_REFERENCES, 1, 1, 5, 2, 19, 2, 25, 0);
        fault("PUT without an object", 1, 1, PLAIN, 0, 1, 21, 0, 26, 0);
        fault("INIT without an object", 1, 1, PLAIN, 0, 1, 18, 1, 26, 0);
        for (int op : new int[] {6, 8, 15, 16, 20, 22, 23, 25, 27, 28, 29}) {
            fault("of nothing, op " + op, 1, 0, PLAIN, op, op == 15 || op == 16 ? 1 : 0, 26, 0);
        }
        FramemapHouse giving = new FramemapHouse();
        giving.method(0, false, -1, -1, 1);
        for (int step : new int[] {2, 2, 2, 2, 2, 2}) {
            giving.add(0, step, 0);
        }
        giving.add(0, 19, 0);
        giving.add(0, 24, 0);
        due.same("16: CALL that gives a LONG on six", giving.ofMethod(0, 0), 1);
        due.same("16: at the CALL", giving.ofMethod(0, 1), 6);
        due.same("16: CALL that gives a LONG on five", giving.verdictWith(0, 0, 14, 1), 0);
        fine("six words", PLAIN, 1, 0, 1, 0, 1, 0, 26, 0);
        fault("a seventh word", 1, 3, PLAIN, 1, 0, 1, 0, 1, 0, 2, 0, 26, 0);
        fault("a LONG on five", 1, 3, PLAIN, 1, 0, 1, 0, 2, 0, 1, 0, 26, 0);
        for (int op : new int[] {0, 1, 2, 3, 4, 5, 17}) {
            fault("on six, op " + op, 1, 3, PLAIN, 1, 0, 1, 0, 1, 0, op, 0, 26, 0);
        }
        fault("DOUBLE of six", 1, 4, PLAIN, 1, 0, 1, 0, 2, 0, 2, 0, 12, 0, 26, 0);
        fault("LOAD on six", 1, 3, PLAIN, 1, 0, 1, 0, 1, 0, 5, 0, 26, 0);
        fault("NEW on six", 1, 3, PLAIN, 1, 0, 1, 0, 1, 0, 17, 1, 26, 0);
        fault("GET of a LONG on six", 1, 4, PLAIN, 1, 0, 1, 0, 2, 0, 5, 0, 20, 1, 26, 0);
        fine("GET of an INT on six", PLAIN, 1, 0, 1, 0, 2, 0, 5, 0, 20, 0, 26, 0);
        fine("CHANGE of six", PLAIN, 1, 0, 1, 0, 2, 0, 2, 0, 13, 0, 26, 0);
    }

    private void wrongNumbers() {
        fault("ADD, the lower one", 2, 2, PLAIN, 2, 0, 0, 1, 9, 0, 26, 0);
        fault("ADD, the upper one", 2, 2, PLAIN, 0, 1, 2, 0, 9, 0, 26, 0);
        fault("ADD of two LONGS as INTS", 2, 1, PLAIN, 1, 1, 9, 0, 26, 0);
        fault("ADD of INTS as LONGS", 2, 4, PLAIN, 0, 1, 0, 1, 0, 1, 0, 1, 10, 0, 26, 0);
        fault("ADD of a LONG shifted", 2, 3, PLAIN, 0, 1, 1, 1, 0, 1, 10, 0, 26, 0);
        fine("ADD of LONGS", OF_LONG, 1, 1, 4, 1, 10, 0, 24, 0);
        fault("STORE of an INT", 2, 1, PLAIN, 2, 0, 6, 0, 26, 0);
        fault("STORE of a LONG", 2, 2, PLAIN, 0, 0, 0, 0, 7, 0, 26, 0);
        fault("GO, if a REFERENCE is 0", 2, 1, PLAIN, 2, 0, 15, 2, 26, 0);
        fault("GIVE an INT", 2, 1, OF_INT, 2, 0, 23, 0);
        fault("GIVE a LONG", 2, 2, OF_LONG, 0, 0, 0, 0, 24, 0);
        fault("an ARGUMENT of a CALL", 2, 4, OF_REFERENCES, 5, 0, 0, 0, 0, 0, 5, 2, 19, 2, 25, 0);
        fault("PUT of an INT", 2, 2, PLAIN, 5, 0, 2, 0, 21, 0, 26, 0);
        fault("PUT of a LONG", 2, 3, PLAIN, 5, 0, 0, 0, 0, 0, 21, 1, 26, 0);
        fault("an ARGUMENT of INIT", 2, 2, PLAIN, 17, 2, 2, 0, 18, 1, 26, 0);
    }

    private void wrongReferences() {
        for (int op : new int[] {16, 22, 27, 28, 29}) {
            fault("an INT for op " + op, 2, 1, PLAIN, 0, 0, op, op == 16 ? 2 : 0, 26, 0);
            fault("MADE for op " + op, 2, 1, PLAIN, 17, 1, op, op == 16 ? 2 : 0, 26, 0);
            fault("HALF for op " + op, 2, 1, MAKER, 5, 0, op, op == 16 ? 2 : 0, 5, 1, 27, 0);
        }
        fault("an INT to STORE", 2, 1, PLAIN, 0, 0, 8, 0, 26, 0);
        fine("MADE to STORE", PLAIN, 17, 1, 8, 2, 26, 0);
        fault("HALF to STORE", 7, 2, MAKER, 5, 0, 8, 2, 26, 0);
        fine("NULL to STORE", PLAIN, 2, 0, 8, 2, 26, 0);
        fault("GIVE of MADE", 2, 1, OF_REFERENCES, 17, 1, 25, 0);
        fault("GIVE of what is not below", 2, 1, OF_REFERENCES, 5, 2, 25, 0);
        fine("GIVE of NULL", OF_REFERENCES, 2, 0, 25, 0);
        fine("GIVE of a child", OF_REFERENCES, 5, 1, 22, 2, 25, 0);
        fault("GIVE of the parent", 2, 2, OF_REFERENCES, 5, 1, 22, 0, 25, 0);
    }

    private void wrongObjects() {
        fault("GET of another class", 2, 1, OF_REFERENCES, 5, 2, 20, 0, 5, 0, 25, 0);
        fine("GET of NULL", PLAIN, 2, 0, 20, 0, 26, 0);
        fault("GET of HALF", 2, 1, MAKER, 5, 0, 20, 0, 5, 1, 27, 0);
        fault("GET of an INT", 2, 1, PLAIN, 0, 0, 20, 0, 26, 0);
        fine("GET of a child", OF_CHILD, 5, 2, 20, 0, 26, 0);
        fault("PUT of another class", 2, 2, OF_REFERENCES, 5, 2, 0, 1, 21, 0, 5, 0, 25, 0);
        fault("PUT of what does not fit", 2, 2, OF_REFERENCES, 5, 0, 5, 1, 21, 2, 5, 0, 25, 0);
        fine("PUT of what fits", OF_REFERENCES, 5, 0, 5, 2, 21, 2, 5, 0, 25, 0);
        fine("PUT of anything as an interface", OF_REFERENCES, 5, 0, 5, 2, 21, 4, 5, 0, 25, 0);
        fault("PUT of MADE as an interface", 2, 2, PLAIN, 5, 0, 17, 1, 21, 4, 26, 0);
        fault("CALL of another class", 2, 3, OF_REFERENCES, 5, 2, 1, 1, 5, 2, 19, 2, 25, 0);
        fault("CALL, the second ARGUMENT", 2, 3, OF_REFERENCES, 5, 0, 1, 1, 5, 1, 19, 2, 25, 0);
        fine("CALL of a child with NULL", OF_REFERENCES, 2, 0, 22, 2, 1, 1, 2, 0, 19, 2, 25, 0);
        marks("after the CALL", 5, 11, 11, 14, 0, 0, 0, 11);
    }

    private void wrongSingles() {
        for (int op : new int[] {11, 12}) {
            fine("an INT for op " + op, PLAIN, 0, 1, op, 0, 26, 0);
            fine("MADE for op " + op, PLAIN, 17, 1, op, 0, 26, 0);
            fine("NULL for op " + op, PLAIN, 2, 0, op, 0, 26, 0);
            fault("a LONG for op " + op, 2, 1, PLAIN, 1, 1, op, 0, 26, 0);
            fault("NOTHING for op " + op, 3, 0, PLAIN, 5, 3, op, 0, 26, 0);
            due.same("17: NOTHING for op " + op, house.ofFrame(5, 1, 4), 2);
        }
        fault("CHANGE, a LONG above", 2, 2, PLAIN, 2, 0, 1, 1, 13, 0, 26, 0);
        marks("changed all the same", 3, 11, 0, 0, 0, 0, 0, 4, 3, 2);
        fault("CHANGE, a LONG below", 2, 2, PLAIN, 1, 1, 2, 0, 13, 0, 26, 0);
        marks("changed all the same", 3, 11, 0, 0, 0, 0, 0, 2, 4, 3);
        fine("CHANGE", OF_INT, 0, 1, 2, 0, 13, 0, 23, 0);
        marks("changed", 3, 11, 1, 0, 0, 0, 0, 4, 1);
        fault("half a LONG for POP", 2, 1, PLAIN, 1, 1, 11, 0, 26, 0);
        marks("popped all the same", 2, 11, 0, 0, 0, 0, 0, 2);
        build(MAKER, 5, 0, 12, 0, 26, 0);
        due.same("17: HALF for DOUBLE", house.ofFrame(5, 1, 4), 0);
    }

    private void wrongLoads() {
        fault("LOAD INT of NOTHING", 3, 0, PLAIN, 3, 1, 26, 0);
        marks("an INT all the same", 1, 11, 0, 0, 0, 0, 0, 1);
        fault("LOAD INT of a LONG", 3, 0, OF_LONG, 3, 1, 4, 1, 24, 0);
        fault("LOAD LONG of an INT", 3, 0, OF_INT, 4, 1, 3, 1, 23, 0);
        marks("a LONG all the same", 1, 11, 1, 0, 0, 0, 0, 2, 3);
        fault("LOAD LONG of a second word", 3, 0, OF_LONG, 4, 2, 24, 0);
        fault("LOAD REFERENCE of an INT", 3, 0, OF_INT, 5, 1, 3, 1, 23, 0);
        marks("NOTHING then", 1, 11, 1, 0, 0, 0, 0, 0);
        fault("LOAD REFERENCE of a second word", 3, 0, OF_LONG, 5, 2, 4, 1, 24, 0);
        fine("LOAD REFERENCE of NULL", OF_REFERENCES, 2, 0, 8, 5, 5, 5, 25, 0);
        fine("LOAD REFERENCE of MADE", PLAIN, 17, 1, 8, 5, 5, 5, 18, 0, 26, 0);
        fault("LOAD REFERENCE of HALF", 7, 1, MAKER, 5, 0, 26, 0);
        build(OF_LONG, 4, 1, 24, 0);
        house.map(5, 0, 0, 0, true);
        house.word(5, 0, 1, 2);
        due.same("16: LOAD LONG without its second word", house.ofMethod(5, 2), 3);
        house.word(5, 0, 2, 3);
        due.same("16: LOAD LONG with it", house.ofMethod(5, 2), 0);
        house.word(5, 0, 1, 0);
        due.same("16: LOAD LONG without its first word", house.ofMethod(5, 2), 3);
        fine("LOAD the last LOCAL of a LONG", OF_LONG, 4, 1, 7, 4, 4, 4, 24, 0);
    }

    private void noWay() {
        fault("nothing behind it", 4, 0, PLAIN, 2, 0);
        fault("nothing behind GO if", 4, 1, PLAIN, 2, 0, 16, 0);
        fault("GO to nothing", 4, 0, PLAIN, 14, 1);
        fault("GO far to nothing", 4, 0, PLAIN, 14, 23, 26, 0);
        fault("GO if, to nothing", 4, 1, PLAIN, 0, 0, 15, 3, 26, 0);
        fault("GO if NULL, to nothing", 4, 1, PLAIN, 2, 0, 16, 3, 26, 0);
        fine("nothing behind GO", PLAIN, 14, 0);
        fine("nothing behind THROW", PLAIN, 5, 0, 27, 0);
        fine("nothing behind GIVE", OF_INT, 3, 1, 23, 0);
    }

    private void keptOut() {
        int[] near = {4, 0, 11, -1, -1};
        int[] far = {2, 0, 14, 11, -1};
        fine("an OPEN one", near, 5, 1, 20, 0, 26, 0);
        fine("PROTECTED, of the own PACKAGE", near, 5, 1, 20, 1, 26, 0);
        fault("OWN of another class", 6, 1, near, 5, 1, 20, 2, 26, 0);
        fault("OWN of another class, to PUT", 6, 2, near, 5, 1, 2, 0, 21, 2, 26, 0);
        fault("OWN of the parent", 6, 1, OF_CHILD, 5, 0, 20, 2, 26, 0);
        fine("OWN of the own class", OF_REFERENCES, 5, 0, 20, 2, 5, 0, 25, 0);
        fine("PACKAGE, of the own PACKAGE", OF_REFERENCES, 5, 2, 20, 3, 5, 0, 25, 0);
        fault("PACKAGE, of another PACKAGE", 6, 1, far, 5, 1, 20, 3, 26, 0);
        fine("PROTECTED of the parent, by the own class", OF_CHILD, 5, 2, 20, 1, 26, 0);
        fine("PROTECTED of the parent, by NULL", OF_CHILD, 2, 0, 20, 1, 26, 0);
        fault("PROTECTED of the parent, by the parent", 6, 1, OF_CHILD, 5, 1, 20, 1, 26, 0);
        protectedOfOnePackage();
        fault("PROTECTED of the parent, PUT", 6, 2, OF_CHILD, 5, 1, 1, 1, 21, 1, 26, 0);
        marks("GET and PUT do the rest", 3, 12, 11, 12, 0, 0, 0);
        build(far, 5, 2, 20, 1, 26, 0);
        house.kind(0, false, 3);
        fault("PROTECTED of the parent, by OBJECT", 2, 1, new int[] {2, 0, 10, -1, -1}, 5, 1, 20, 1, 26, 0);
    }

    /** In one PACKAGE the object can be of the parent, too. */
    private void protectedOfOnePackage() {
        for (int where = 0; where <= 1; where++) {
            FramemapHouse other = new FramemapHouse();
            other.kind(0, false, 1);
            other.kind(1, false, where);
            other.field(1, 0, 2);
            other.method(2, false, 11, 12, -1);
            other.add(0, 5, 1);
            other.add(0, 20, 0);
            other.add(0, 26, 0);
            due.same("16: PROTECTED, by the parent, of " + where, other.ofMethod(0, 0), where == 1 ? 0 : 6);
            due.same("16: PROTECTED, by a child, of " + where, other.verdictWith(0, 0, 5, 2), 0);
            due.same("19: PROTECTED, by the parent, of " + where, other.run(0, 1, 2), where == 1 ? 0 : 3);
            due.same("19: PROTECTED, by a child, of " + where, other.run(0, 2, 2), 0);
        }
    }

    /** What a MAP says at the PLACE 1, ahead of the INSTRUCTION there; GIVE stands behind it. */
    private void byMap(String label, int fault, int op, int a, int... words) {
        build(PLAIN, 26, 0, op, a, 26, 0);
        house.map(5, 1, words.length, 0, true);
        for (int word = 0; word < words.length; word++) {
            house.word(5, 1, 6 + word, words[word]);
        }
        due.same("16: " + label + ", by maps", house.ofMethod(5, 2), fault);
        // GIVE with the LOCK, and what nothing comes to, are behind it.
        boolean isBehind = (op == 28 && fault == 9) || (op == 27 && fault == 10);
        due.same("16: " + label + ", its place", house.ofMethod(5, 3), fault == 0 ? -1 : isBehind ? 2 : 1);
    }

    /** LONGS of which one word is none, and words of a LONG alone, come by MAPS. */
    private void halvesOfLongs() {
        int[] others = {0, 1, 2, 3, 4, 5, 11, 102};
        for (int mark : others) {
            byMap("STORE of a LONG, first " + mark, mark == 2 ? 0 : 2, 7, 1, mark, 3);
            byMap("STORE of a LONG, second " + mark, mark == 3 ? 0 : 2, 7, 1, 2, mark);
            byMap("ADD of LONGS, first " + mark, mark == 2 ? 0 : 2, 10, 0, mark, 3, 2, 3);
            byMap("ADD of LONGS, second " + mark, mark == 3 ? 0 : 2, 10, 0, 2, mark, 2, 3);
            byMap("ADD of LONGS, third " + mark, mark == 2 ? 0 : 2, 10, 0, 2, 3, mark, 3);
            byMap("ADD of LONGS, fourth " + mark, mark == 3 ? 0 : 2, 10, 0, 2, 3, 2, mark);
            byMap("PUT of a LONG, first " + mark, mark == 2 ? 0 : 2, 21, 1, 11, mark, 3);
            byMap("PUT of a LONG, second " + mark, mark == 3 ? 0 : 2, 21, 1, 11, 2, mark);
            byMap("CALL with a LONG, first " + mark, mark == 2 ? 0 : 2, 19, 2, 11, mark, 3, 4);
            byMap("CALL with a LONG, second " + mark, mark == 3 ? 0 : 2, 19, 2, 11, 2, mark, 4);
            boolean isSingle = mark != 0 && mark != 2 && mark != 3;
            byMap("POP of " + mark, isSingle ? 0 : 2, 11, 0, mark);
            byMap("DOUBLE of " + mark, isSingle ? 0 : 2, 12, 0, mark);
            byMap("CHANGE, below " + mark, isSingle ? 0 : 2, 13, 0, mark, 1);
            byMap("CHANGE, above " + mark, isSingle ? 0 : 2, 13, 0, 1, mark);
            boolean isReference = mark == 4 || mark == 11;
            byMap("STORE of " + mark, isSingle && mark != 1 ? 0 : 2, 8, 1, mark);
            byMap("STORE as an INT of " + mark, mark == 1 ? 0 : 2, 6, 1, mark);
            byMap("GO, if 0, of " + mark, mark == 1 ? 10 : 2, 15, 2, mark);
            byMap("GO, if NULL, of " + mark, isReference ? 10 : 2, 16, 2, mark);
            byMap("CAST of " + mark, isReference ? 0 : 2, 22, 4, mark);
            byMap("LOCK of " + mark, isReference ? 9 : 2, 28, 0, mark);
            byMap("FREE of " + mark, isReference ? 9 : 2, 29, 0, mark);
            byMap("THROW of " + mark, isReference ? 10 : 2, 27, 0, mark);
            byMap("GET of " + mark, isReference ? 0 : 2, 20, 0, mark);
        }
    }

    private void unmadeInit() {
        fine("INIT of MADE", PLAIN, 17, 1, 18, 0, 26, 0);
        fault("INIT by another CONSTRUCTOR", 7, 1, PLAIN, 17, 1, 18, 3, 26, 0);
        marks("what it took is gone", 2, 11, 0, 0, 0, 0, 0);
        fault("INIT by that of the child", 7, 2, PLAIN, 17, 1, 0, 1, 18, 1, 26, 0);
        fault("INIT of NULL", 7, 1, PLAIN, 2, 0, 18, 0, 26, 0);
        fault("INIT of an INT", 7, 1, PLAIN, 0, 0, 18, 0, 26, 0);
        fault("INIT twice", 7, 3, PLAIN, 17, 1, 12, 0, 18, 0, 18, 0, 26, 0);
        fine("INIT of HALF by the own one", MAKER, 5, 0, 18, 0, 26, 0);
        fine("INIT of HALF by that of the parent", MAKER, 5, 0, 18, 3, 26, 0);
        fine("INIT of HALF by that of the parent", CHILD_MAKER, 5, 0, 18, 0, 26, 0);
        fault("INIT of HALF by another one", 7, 1, MAKER, 5, 0, 18, 4, 26, 0);
        fault("INIT of HALF by that of the child", 7, 2, MAKER, 5, 0, 0, 0, 18, 1, 26, 0);
        fault("INIT of HALF by that of the parent's parent", 7, 1, CHILD_MAKER, 5, 0, 18, 3, 26, 0);
        fine("INIT of HALF of OBJECT", OBJECT_MAKER, 5, 0, 18, 3, 26, 0);
        fault("INIT of HALF of OBJECT by another one", 7, 1, OBJECT_MAKER, 5, 0, 18, 0, 26, 0);
        fault("INIT with a wrong ARGUMENT, of what is wrong", 2, 2, PLAIN, 2, 0, 2, 0, 18, 1, 26, 0);
        marks("what it took is gone", 3, 11, 0, 0, 0, 0, 0);
        fault("INIT with a wrong ARGUMENT, of MADE", 2, 3, PLAIN, 17, 2, 12, 0, 2, 0, 18, 1, 26, 0);
        marks("it does the rest", 4, 11, 0, 0, 0, 0, 0, 12);
        fault("INIT of MADE by another CONSTRUCTOR", 7, 3, PLAIN, 17, 1, 12, 0, 8, 4, 18, 3, 17, 1, 26, 0);
        marks("nothing else is changed", 4, 11, 0, 0, 0, 100, 0);
        fault("INIT of two of MADE by another CONSTRUCTOR", 7, 2, PLAIN, 17, 1, 12, 0, 18, 3, 26, 0);
        marks("what is below stays MADE", 3, 11, 0, 0, 0, 0, 0, 100);
        fault("INIT of HALF by another one, then GIVE", 7, 1, MAKER, 5, 0, 18, 4, 26, 0);
        marks("it is HALF still", 2, 5, 11, 0, 0, 0, 0);
        due.same("17: it is not DONE", house.ofFrame(5, 2, 3), 0);
        due.same("17: nor is it to be given", house.ofFrame(5, 2, 4), 7);
        fault("INIT of an INT", 7, 2, OF_INT, 0, 0, 12, 0, 18, 0, 23, 0);
        marks("INTS stay INTS", 3, 11, 1, 0, 0, 0, 0, 1);
    }

    private void unmadeOthers() {
        build(PLAIN, 26, 0, 17, 1, 26, 0);
        house.map(5, 1, 1, 0, true);
        due.same("16: NEW with NOTHING on the STACK", house.ofMethod(5, 2), 0);
        house.word(5, 1, 6, 101);
        due.same("16: NEW with the same on the STACK", house.ofMethod(5, 2), 7);
        due.same("16: its place", house.ofMethod(5, 3), 1);
        house.word(5, 1, 6, 102);
        due.same("16: NEW with another one on the STACK", house.ofMethod(5, 2), 0);
        build(PLAIN, 26, 0, 11, 0, 17, 1, 26, 0);
        house.map(5, 1, 1, 0, true);
        house.word(5, 1, 6, 102);
        due.same("16: NEW with the same that is gone", house.ofMethod(5, 2), 0);
        fine("GO back with MADE that is gone", PLAIN, 17, 1, 11, 0, 14, 0);
        fault("GO back with MADE on the STACK", 5, 1, PLAIN, 2, 0, 17, 1, 14, 1);
        fault("GO back with MADE on the STACK", 7, 2, PLAIN, 17, 1, 0, 0, 15, 1, 26, 0);
        fault("GO back with MADE in a LOCAL", 7, 2, PLAIN, 17, 1, 8, 1, 14, 0);
        fault("GO to itself with MADE", 5, 2, PLAIN, 17, 1, 2, 0, 16, 2, 26, 0);
        fault("GO if, back with MADE", 7, 3, PLAIN, 17, 1, 8, 1, 0, 0, 15, 0, 26, 0);
        fault("GO if NULL, back with MADE", 7, 3, PLAIN, 17, 1, 8, 1, 2, 0, 16, 0, 26, 0);
        fine("GO forth with MADE", PLAIN, 17, 1, 14, 2, 26, 0);
        fine("GO back without", PLAIN, 2, 0, 8, 1, 14, 0);
        fault("GO back with HALF", 7, 0, MAKER, 14, 0);
        fault("GO back with HALF that it takes", 2, 1, MAKER, 5, 0, 16, 0, 5, 1, 27, 0);
        fault("GIVE of what is not DONE", 7, 0, MAKER, 26, 0);
        fine("GIVE of what is DONE", MAKER, 5, 0, 18, 0, 26, 0);
        due.same("17: not DONE ahead", house.ofFrame(5, 1, 3), 0);
        due.same("17: DONE then", house.ofFrame(5, 2, 3), 1);
        fine("THROW of what is not DONE", MAKER, 5, 1, 27, 0);
        fault("DONE on the first way only", 7, 6, MAKER, 5, 1, 16, 8, 5, 0, 18, 0, 2, 0, 8, 0, 26, 0, 14, 6, 2, 0, 8, 0,
                14, 7);
        due.same("16: a round for that alone", house.ofMethod(5, 6), 3);
        fault("DONE on one way only", 7, 5, MAKER, 5, 1, 16, 4, 5, 0, 18, 0, 2, 0, 26, 0);
    }

    private void wrongResults() {
        fault("GIVE nothing for an INT", 8, 0, OF_INT, 26, 0);
        fault("GIVE an INT for nothing", 8, 1, PLAIN, 0, 0, 23, 0);
        fault("GIVE an INT for a LONG", 8, 1, OF_LONG, 0, 0, 23, 0);
        fault("GIVE a LONG for an INT", 8, 1, OF_INT, 1, 0, 24, 0);
        fault("GIVE a REFERENCE for an INT", 8, 1, OF_INT, 2, 0, 25, 0);
        fault("GIVE a REFERENCE for nothing", 8, 1, PLAIN, 5, 0, 25, 0);
        fault("GIVE an INT for a REFERENCE", 8, 1, OF_REFERENCES, 0, 0, 23, 0);
        fault("GIVE nothing for a REFERENCE", 8, 0, OF_REFERENCES, 26, 0);
        fault("GIVE an INT by a CONSTRUCTOR", 8, 3, MAKER, 5, 0, 18, 0, 0, 0, 23, 0);
    }

    private void wrongLocks() {
        fault("FREE without LOCKS", 9, 1, PLAIN, 5, 0, 29, 0, 26, 0);
        due.same("17: not below 0", house.ofFrame(5, 2, 2), 0);
        fine("LOCK and FREE", PLAIN, 5, 0, 28, 0, 5, 0, 29, 0, 26, 0);
        due.same("17: a LOCK more", house.ofFrame(5, 2, 2), 1);
        due.same("17: a LOCK less", house.ofFrame(5, 4, 2), 0);
        fine("two LOCKS", PLAIN, 2, 0, 28, 0, 2, 0, 28, 0, 2, 0, 29, 0, 2, 0, 29, 0, 26, 0);
        for (int place = 0; place <= 8; place++) {
            due.same("17: LOCKS at " + place, house.ofFrame(5, place, 2), new int[] {0, 0, 1, 1, 2, 2, 1, 1, 0}[place]);
        }
        fault("GIVE with a LOCK", 9, 2, PLAIN, 2, 0, 28, 0, 26, 0);
        fault("THROW with a LOCK", 9, 3, PLAIN, 2, 0, 28, 0, 2, 0, 27, 0);
        house.handler(5, 2, 3, 0, 0);
        due.same("16: a HANDLER for another PLACE", house.ofMethod(5, 0), 5);
        build(PLAIN, 2, 0, 28, 0, 2, 0, 27, 0);
        house.handler(5, 3, 4, 23, 0);
        due.same("16: THROW with a LOCK in a range", house.ofMethod(5, 0), 0);
        fault("THROW in a range that ends ahead of it", 9, 3, PLAIN, 2, 0, 28, 0, 2, 0, 27, 0);
        house.handler(5, 0, 3, 23, 0);
        due.same("16: not in that range", house.ofMethod(5, 0), 9);
        house.handler(5, 4, 24, 23, 0);
        due.same("16: nor in this", house.ofMethod(5, 0), 9);
    }

    private void firstOfSeveral() {
        fault("2 ahead of 4", 2, 1, PLAIN, 0, 0, 16, 9, 26, 0);
        fault("2 ahead of 6", 2, 1, OF_CHILD, 5, 0, 20, 3, 26, 0);
        fault("3 ahead of 4", 3, 0, PLAIN, 3, 1);
        fault("4 ahead of 6", 4, 1, OF_CHILD, 5, 0, 20, 2);
        fault("4 ahead of 7", 4, 1, PLAIN, 2, 0, 18, 0);
        fault("4 ahead of 7, GO", 4, 1, MAKER, 2, 0, 16, 0);
        fault("2 ahead of 8", 2, 1, PLAIN, 2, 0, 23, 0);
        fault("7 ahead of 8", 7, 1, MAKER, 0, 0, 23, 0);
        fault("7 ahead of 9", 7, 2, MAKER, 2, 0, 28, 0, 26, 0);
        fault("8 ahead of 9", 8, 2, OF_INT, 2, 0, 28, 0, 26, 0);
        fault("1 ahead of all", 1, 0, PLAIN, 16, 9);
        fault("the least place", 3, 0, PLAIN, 3, 1, 9, 0, 26, 0);
    }

    private void storesIntoLocals() {
        build(PLAIN, 1, 0, 7, 1, 0, 0, 6, 2, 1, 0, 7, 1, 0, 0, 6, 1, 26, 0);
        marks("a LONG", 2, 11, 2, 3, 0, 0, 0);
        marks("its first word is NOTHING", 4, 11, 0, 1, 0, 0, 0);
        marks("a LONG again", 6, 11, 2, 3, 0, 0, 0);
        marks("its second word is NOTHING", 8, 11, 1, 0, 0, 0, 0);
        build(PLAIN, 1, 0, 7, 1, 1, 0, 7, 3, 1, 0, 7, 2, 26, 0);
        marks("two LONGS", 4, 11, 2, 3, 2, 3, 0);
        marks("a LONG across them", 6, 11, 0, 2, 3, 0, 0);
        build(PLAIN, 1, 0, 7, 4, 2, 0, 8, 5, 1, 0, 7, 4, 0, 0, 6, 4, 26, 0);
        marks("the last LOCALS", 2, 11, 0, 0, 0, 2, 3);
        marks("a REFERENCE in the last one", 4, 11, 0, 0, 0, 0, 4);
        marks("an INT ahead of it", 8, 11, 0, 0, 0, 1, 0);
        build(PLAIN, 0, 0, 8, 2, 26, 0);
        marks("STORE of an INT as a REFERENCE", 2, 11, 0, 0, 0, 0, 0);
        build(PLAIN, 2, 0, 6, 2, 26, 0);
        marks("STORE of NULL as an INT", 2, 11, 0, 1, 0, 0, 0);
        build(PLAIN, 0, 0, 0, 0, 7, 2, 26, 0);
        marks("STORE of INTS as a LONG", 3, 11, 0, 2, 3, 0, 0);
        build(PLAIN, 1, 0, 13, 0, 0, 0, 6, 5, 26, 0);
        marks("a second word on the STACK is not behind a LOCAL", 4, 11, 0, 0, 0, 0, 1, 3, 2);
        build(OF_LONG, 2, 0, 8, 0, 4, 1, 7, 0, 26, 0);
        marks("a LONG over a LONG", 4, 2, 3, 0, 0, 0, 0);
        build(OF_LONG, 4, 1, 7, 0, 0, 0, 6, 1, 26, 0);
        marks("a LONG in the first LOCALS", 2, 2, 3, 0, 0, 0, 0);
        marks("an INT behind its first word", 4, 0, 1, 0, 0, 0, 0);
    }

    private void pushes() {
        build(OF_REFERENCES, 0, 9, 1, 9, 2, 0, 26, 0);
        marks("numbers", 3, 11, 11, 14, 0, 0, 0, 1, 2, 3, 4);
        build(OF_REFERENCES, 5, 0, 20, 0, 5, 0, 20, 1, 5, 0, 20, 2, 26, 0);
        marks("fields", 6, 11, 11, 14, 0, 0, 0, 1, 2, 3, 14);
        build(OF_REFERENCES, 0, 0, 22, 4, 26, 0);
        marks("CAST of an INT", 2, 11, 11, 14, 0, 0, 0, 14);
        build(OF_REFERENCES, 2, 0, 22, 3, 26, 0);
        marks("CAST to an interface", 2, 11, 11, 14, 0, 0, 0, 13);
        build(OF_REFERENCES, 2, 0, 2, 0, 9, 0, 26, 0);
        marks("ADD of NULLS", 3, 11, 11, 14, 0, 0, 0, 1);
        build(OF_REFERENCES, 0, 0, 1, 0, 0, 0, 10, 0, 26, 0);
        marks("ADD of what are no LONGS", 4, 11, 11, 14, 0, 0, 0, 2, 3);
        build(OF_REFERENCES, 5, 1, 12, 0, 26, 0);
        marks("DOUBLE", 2, 11, 11, 14, 0, 0, 0, 11, 11);
        build(OF_REFERENCES, 1, 0, 12, 0, 26, 0);
        marks("DOUBLE of half a LONG", 2, 11, 11, 14, 0, 0, 0, 2, 3, 3);
        build(OF_REFERENCES, 17, 1, 12, 0, 8, 3, 17, 1, 26, 0);
        marks("NEW", 1, 11, 11, 14, 0, 0, 0, 100);
        marks("another NEW", 4, 11, 11, 14, 100, 0, 0, 100, 103);
    }

    private void makesReady() {
        build(PLAIN, 26, 0, 17, 1, 5, 3, 26, 0);
        house.map(5, 1, 0, 0, true);
        house.word(5, 1, 3, 102);
        due.same("16: MADE at another place stays", house.ofMethod(5, 2), 0);
        house.word(5, 1, 3, 101);
        due.same("16: MADE at this place is NOTHING", house.ofMethod(5, 2), 3);
        due.same("16: its place", house.ofMethod(5, 3), 2);
        newMakesLocalsNothing();
        build(PLAIN, 17, 1, 12, 0, 8, 3, 12, 0, 18, 0, 26, 0);
        marks("MADE", 4, 11, 0, 0, 100, 0, 0, 100, 100);
        marks("all that are the same", 5, 11, 0, 0, 11, 0, 0, 11);
        build(PLAIN, 17, 1, 17, 1, 18, 0, 26, 0);
        marks("but not another one", 3, 11, 0, 0, 0, 0, 0, 100);
        build(CHILD_MAKER, 5, 0, 12, 0, 8, 4, 18, 0, 26, 0);
        marks("HALF", 3, 5, 1, 0, 0, 5, 0, 5);
        marks("of HALF the own class", 4, 12, 1, 0, 0, 12, 0);
        build(PLAIN, 17, 1, 8, 2, 0, 0, 15, 0, 26, 0);
        due.same("18: MADE in a LOCAL", house.mark(5, 2, 2), 100);
        due.same("18: the LOCAL meets NOTHING", house.mark(5, 0, 2), 0);
        build(PLAIN, 17, 1, 8, 2, 14, 3, 17, 1, 8, 2, 14, 3);
        marks("NEW again: LOCALS are NOTHING", 4, 11, 0, 0, 0, 0, 0, 103);
    }

    /** NEW of the CLASS 1 at the PLACE 2, with LOCALS that are MADE there, and at the PLACE 1; a MAP behind it. */
    private void newMakesLocalsNothing() {
        for (int mark : new int[] {0, 1, 2, 3, 4, 5, 11, 101, 102}) {
            build(PLAIN, 26, 0, 26, 0, 17, 1, 26, 0);
            house.map(5, 1, 0, 0, true);
            house.map(5, 2, 0, 0, true);
            house.word(5, 2, 0, 102);
            house.word(5, 2, 3, 102);
            house.word(5, 2, 4, 101);
            house.word(5, 2, 5, 102);
            house.map(5, 3, 1, 0, true);
            house.word(5, 3, 6, 102);
            house.word(5, 3, 4, 101);
            due.same("16: only those at its PLACE", house.ofMethod(5, 2), 0);
            for (int local : new int[] {0, 3, 5}) {
                house.word(5, 3, local, mark);
                due.same("16: NOTHING is no " + mark, house.ofMethod(5, 2), mark == 0 ? 0 : 10);
                house.word(5, 3, local, 0);
            }
            house.word(5, 3, 4, mark);
            due.same("16: MADE at 1 is no " + mark, house.ofMethod(5, 2), mark == 0 || mark == 101 ? 0 : 10);
        }
    }

    private void callsWithoutResult() {
        FramemapHouse other = new FramemapHouse();
        int[] results = {-1, 0, 1, 10};
        int[][] pushed = {{}, {1}, {2, 3}, {10}};
        for (int method = 0; method < 4; method++) {
            other.method(0, false, 1, 0, results[method]);
        }
        other.method(0, false, -1, -1, -1);
        for (int method = 0; method < 4; method++) {
            for (int[] step : new int[][] {{0, 7}, {5, 0}, {1, 1}, {0, 1}, {19, method}, {26, 0}}) {
                other.add(4, step[0], step[1]);
            }
            due.same("16: CALL of " + method, other.ofMethod(4, 0), 0);
            due.same("17: words ahead of the CALL", other.ofFrame(4, 4, 1), 5);
            due.same("17: words behind the CALL", other.ofFrame(4, 5, 1), 1 + pushed[method].length);
            due.same("18: what is below", other.mark(4, 5, 6), 1);
            for (int word = 0; word < pushed[method].length; word++) {
                due.same("18: the RESULT", other.mark(4, 5, 7 + word), pushed[method][word]);
            }
            for (int left = 6; left > 0; left--) {
                other.cut(4);
            }
        }
    }

    private void doneStaysDone() {
        fine("INIT of another one, behind that of HALF", MAKER, 5, 0, 18, 0, 17, 1, 18, 0, 26, 0);
        due.same("17: DONE", house.ofFrame(5, 4, 3), 1);
        fault("INIT of another one alone", 7, 2, MAKER, 17, 1, 18, 0, 26, 0);
        due.same("17: not DONE", house.ofFrame(5, 2, 3), 0);
        fine("INIT of HALF, with another one MADE", MAKER, 17, 1, 5, 0, 18, 0, 18, 0, 26, 0);
        marks("MADE stays MADE", 3, 11, 11, 0, 0, 0, 0, 100);
    }
}
