/** Promises 19 and 20: runs. */
public final class RunTest {
    private static final int MAX = Integer.MAX_VALUE;
    private static final int MIN = Integer.MIN_VALUE;

    private static final int[] PLAIN = {1, 0, -1, -1, -1};
    private static final int[] OF_INTS = {1, 0, 0, 0, 0};
    private static final int[] OF_LONGS = {1, 0, 1, 1, 1};
    private static final int[] OF_REFERENCES = {1, 0, 11, 14, 10};
    private static final int[] GIVES_INT = {1, 0, 11, -1, 0};
    private static final int[] GIVES_LONG = {1, 0, 11, -1, 1};
    private static final int[] MAKER = {2, 1, -1, -1, -1};

    private final Due due = new Due();
    private FramemapHouse house;

    public static void main(String[] args) {
        RunTest test = new RunTest();
        test.refusals();
        test.aheadOfAll();
        test.numbers();
        test.numbersGoRound();
        test.words();
        test.wordsBeneath();
        test.goes();
        test.references();
        test.fields();
        test.fieldsOfEachRun();
        test.calls();
        test.nullThrows();
        test.casts();
        test.handlers();
        test.locks();
        test.makes();
        test.constructors();
        test.wrongOnes();
        test.limit();
        test.lastOfTheLimit();
        test.objectsOfOneRun();
        test.startsAnew();
        test.marksOfFields();
        test.due.end();
    }

    /** Method 0 makes class 1, 1 makes class 2 with an INT, 2 gives a LONG, 3 a REFERENCE; 4 is under test. */
    private void build(int[] signature, int... steps) {
        house = new FramemapHouse();
        house.kind(0, false, 0);
        house.kind(1, false, 0);
        house.kind(0, false, 0);
        house.kind(0, true, 0);
        house.field(1, 0, 0);
        house.field(1, 1, 0);
        house.field(1, 11, 0);
        house.method(1, true, -1, -1, -1);
        house.method(2, true, 0, -1, -1);
        house.method(1, false, 0, -1, 1);
        house.method(1, false, -1, -1, 11);
        house.method(signature[0], signature[1] == 1, signature[2], signature[3], signature[4]);
        for (int i = 0; i < steps.length; i += 2) {
            house.add(4, steps[i], steps[i + 1]);
        }
    }

    /** Facts in the order of ofRun: outcome, place, done, gave, thrown, places, locks, made, runs. */
    private void runs(String label, int first, int second, int... facts) {
        due.same("19: " + label, house.run(4, first, second), facts[0]);
        for (int what = 0; what < facts.length; what++) {
            due.same("20: " + label + ": ofRun(" + what + ")", house.ofRun(what), facts[what]);
        }
    }

    private void refusals() {
        build(OF_REFERENCES, 2, 0, 25, 0);
        for (int method : new int[] {-1, 5, MAX, MIN}) {
            due.noSuch(house, "19: no method", () -> house.run(method, 9, 9));
        }
        for (int kind : new int[] {-2, 0, 3, 4, 5, 10, MAX, MIN}) {
            due.notRight(house, "19: no first " + kind, () -> house.run(4, kind, -1));
        }
        for (int kind : new int[] {-2, 4, 5, 10, MAX, MIN}) {
            due.notRight(house, "19: no second " + kind, () -> house.run(4, -1, kind));
        }
        for (int kind = -1; kind <= 3; kind++) {
            due.same("19: for the interface " + kind, house.run(4, 2, kind), 0);
        }
        due.same("19: the own class", house.run(4, 1, -1), 0);
        for (int given : new int[] {1, -1, MAX, MIN}) {
            due.notRight(house, "19: no argument", () -> house.run(3, given, 0));
            due.notRight(house, "19: no second argument", () -> house.run(2, 7, given));
        }
        due.notNow(house, "19: no code", () -> house.run(3, 0, 0));
        due.notNow(house, "19: no code", () -> house.run(2, MAX, 0));
        due.same("20: refused ones are no runs", house.ofRun(8), 6);
        for (int what : new int[] {-1, 9, MAX, MIN}) {
            due.notRight(house, "20: no what " + what, () -> house.ofRun(what));
        }
    }

    private void aheadOfAll() {
        build(PLAIN, 26, 0);
        for (int what = 0; what <= 8; what++) {
            due.same("20: ahead of all, ofRun(" + what + ")", house.ofRun(what), 0);
        }
        runs("GIVE nothing", 0, 0, 0, 0, 1, 0, -1, 1, 0, 0, 1);
        runs("once more", 0, 0, 0, 0, 1, 0, -1, 1, 0, 0, 2);
    }

    private void numbers() {
        build(OF_INTS, 3, 1, 3, 2, 9, 0, 23, 0);
        runs("ADD of INTS", 5, -7, 0, 3, 4, -2, -1, 15, 0, 0, 1);
        runs("it goes round", MAX, 1, 0, 3, 4, MIN);
        build(OF_LONGS, 4, 1, 4, 3, 10, 0, 24, 0);
        runs("ADD of LONGS", 5, -7, 0, 3, 4, -2);
        runs("it goes round as an INT", MIN, -1, 0, 3, 4, MAX);
        build(OF_INTS, 0, -99, 23, 0);
        runs("a number", 1, 2, 0, 1, 2, -99);
        build(OF_LONGS, 1, 99, 24, 0);
        runs("a LONG", 1, 2, 0, 1, 2, 99);
    }

    /** As ints do, of LONGS as of INTS. */
    private void numbersGoRound() {
        int[][] sums = {{MAX, 1, MIN}, {MAX, 0, MAX}, {MIN, -1, MAX}, {MIN, 0, MIN}, {MAX, MAX, -2}, {MIN, MIN, 0},
            {MAX, MIN, -1}, {1 << 30, 1 << 30, MIN}, {-1, -1, -2}, {MAX - 99, 99, MAX}, {MAX - 98, 99, MIN}};
        for (int[] sum : sums) {
            build(OF_INTS, 3, 1, 3, 2, 9, 0, 23, 0);
            runs("INTS " + sum[0] + " and " + sum[1], sum[0], sum[1], 0, 3, 4, sum[2]);
            build(OF_LONGS, 4, 1, 4, 3, 10, 0, 24, 0);
            runs("LONGS " + sum[0] + " and " + sum[1], sum[0], sum[1], 0, 3, 4, sum[2]);
            build(OF_LONGS, 4, 1, 4, 3, 10, 0, 7, 2, 5, 0, 4, 2, 21, 1, 5, 0, 20, 1, 24, 0);
            runs("PUT and GET of the LONG", sum[0], sum[1], 0, 9, 10, sum[2]);
            build(OF_INTS, 5, 0, 3, 1, 3, 2, 9, 0, 21, 0, 5, 0, 20, 0, 23, 0);
            runs("PUT and GET of the INT", sum[0], sum[1], 0, 7, 8, sum[2]);
        }
        build(OF_INTS, 3, 1, 3, 2, 9, 0, 15, 6, 0, 1, 23, 0, 0, 2, 23, 0);
        runs("GO, if it goes round to 0", MIN, MIN, 0, 7, 6, 2);
        runs("and to what is not 0", MAX, MAX, 0, 5, 6, 1);
        build(OF_INTS, 3, 1, 0, 99, 9, 0, 12, 0, 9, 0, 23, 0);
        runs("round by DOUBLE", MAX, 0, 0, 5, 6, 2 * (MIN + 98));
        build(OF_LONGS, 4, 1, 1, -99, 10, 0, 24, 0);
        runs("round by a negative one", MIN + 98, 0, 0, 3, 4, MAX);
        runs("not quite round", MIN + 99, 0, 0, 3, 4, MIN);
    }

    /** What is below the words that an INSTRUCTION takes stays as it is. */
    private void wordsBeneath() {
        build(OF_INTS, 0, 7, 3, 1, 3, 2, 9, 0, 6, 1, 23, 0);
        runs("ADD of INTS, STORE", 5, 6, 0, 5, 6, 7);
        build(OF_LONGS, 1, 7, 4, 1, 4, 3, 10, 0, 7, 1, 24, 0);
        runs("ADD of LONGS, STORE", 5, 6, 0, 5, 6, 7);
        build(OF_LONGS, 1, 7, 4, 1, 7, 3, 24, 0);
        runs("STORE of a LONG", 5, 6, 0, 3, 4, 7);
        build(OF_INTS, 0, 7, 3, 1, 3, 2, 13, 0, 11, 0, 11, 0, 23, 0);
        runs("CHANGE", 5, 6, 0, 6, 7, 7);
        build(OF_INTS, 0, 7, 5, 0, 3, 1, 21, 0, 23, 0);
        runs("PUT", 5, 6, 0, 4, 5, 7);
        build(OF_LONGS, 1, 7, 5, 0, 4, 1, 21, 1, 24, 0);
        runs("PUT of a LONG", 5, 6, 0, 4, 5, 7);
        build(OF_INTS, 0, 7, 5, 0, 20, 0, 11, 0, 23, 0);
        runs("GET", 5, 6, 0, 4, 5, 7);
        build(OF_INTS, 0, 7, 17, 2, 3, 1, 18, 1, 23, 0);
        runs("NEW and INIT", 5, 6, 0, 4, 5, 7, -1, 31, 0, 1);
        build(OF_LONGS, 1, 7, 5, 0, 0, 5, 19, 2, 7, 1, 24, 0);
        runs("CALL", 5, 6, 0, 5, 6, 7);
        build(OF_INTS, 0, 7, 5, 0, 28, 0, 5, 0, 29, 0, 23, 0);
        runs("LOCK and FREE", 5, 6, 0, 5, 6, 7, -1, 63, 0);
        build(OF_INTS, 0, 7, 5, 0, 22, 1, 16, 4, 3, 1, 15, 6, 23, 0);
        runs("CAST and GO", 5, 6, 0, 6, 7, 7);
    }

    private void words() {
        build(OF_INTS, 3, 1, 3, 2, 13, 0, 11, 0, 23, 0);
        runs("CHANGE and POP", 5, 7, 0, 4, 5, 7);
        build(OF_INTS, 3, 1, 12, 0, 9, 0, 23, 0);
        runs("DOUBLE", 21, 7, 0, 3, 4, 42);
        build(OF_INTS, 3, 1, 6, 5, 0, 3, 6, 1, 3, 5, 23, 0);
        runs("STORE", 21, 7, 0, 5, 6, 21);
        build(OF_LONGS, 4, 3, 7, 1, 4, 1, 24, 0);
        runs("STORE of a LONG", 21, 7, 0, 3, 4, 7);
        build(OF_INTS, 3, 1, 6, 0, 3, 0, 23, 0);
        runs("STORE into the LOCAL 0", 21, 7, 0, 3, 4, 21);
        build(OF_LONGS, 4, 1, 7, 3, 11, 0, 26, 0);
        runs("STORE takes the LONG", 21, 7, 3, 2, 2);
        build(OF_LONGS, 4, 1, 7, 3, 14, 0);
        runs("STORE takes the LONG, again and again", 21, 7, 2, 2, 200);
        build(OF_LONGS, 4, 1, 4, 3, 10, 0, 7, 1, 11, 0, 26, 0);
        runs("ADD takes both LONGS", 21, 7, 3, 4, 4);
        build(OF_LONGS, 4, 1, 4, 3, 10, 0, 7, 1, 14, 0);
        runs("ADD takes both LONGS, again and again", 21, 7, 2, 0, 200);
        build(OF_INTS, 3, 1, 3, 2, 9, 0, 6, 1, 11, 0, 26, 0);
        runs("ADD takes both INTS", 21, 7, 3, 4, 4);
        build(OF_INTS, 3, 1, 3, 2, 13, 0, 11, 0, 11, 0, 11, 0, 26, 0);
        runs("CHANGE takes both", 21, 7, 3, 5, 5);
        build(OF_INTS, 0, 7, 2, 0, 13, 0, 6, 3, 16, 6, 14, 5, 3, 3, 23, 0);
        runs("CHANGE of an INT and NULL", 1, 2, 0, 7, 7, 7);
        build(OF_LONGS, 4, 3, 7, 2, 4, 2, 24, 0);
        runs("STORE of a LONG across", 21, 7, 0, 3, 4, 7);
        build(OF_LONGS, 4, 3, 7, 2, 4, 1, 24, 0);
        runs("the LONG ahead is NOTHING", 21, 7, 3, 2, 2, 0, -1, 3);
        build(OF_LONGS, 0, 1, 6, 3, 4, 1, 24, 0);
        runs("the LONG ahead is as it was", 21, 7, 0, 3, 4, 21);
        build(OF_LONGS, 0, 1, 6, 2, 3, 3, 24, 0);
        runs("the LONG behind is no INT", 21, 7, 3, 2, 2);
    }

    private void goes() {
        build(OF_INTS, 3, 1, 15, 4, 0, 1, 23, 0, 0, 2, 23, 0);
        runs("GO, it is 0", 0, 0, 0, 5, 4, 2, -1, 51);
        runs("GO, it is not 0", -1, 0, 0, 3, 4, 1, -1, 15);
        build(GIVES_INT, 5, 1, 16, 4, 0, 1, 23, 0, 0, 2, 23, 0);
        runs("GO, it is NULL", -1, 0, 0, 5, 4, 2);
        runs("GO, it is not NULL", 1, 0, 0, 3, 4, 1);
        build(PLAIN, 14, 2, 26, 0, 14, 1);
        runs("GO back", 0, 0, 0, 1, 3, 0, -1, 7);
    }

    private void references() {
        build(OF_REFERENCES, 5, 1, 25, 0);
        runs("a REFERENCE", 2, 3, 0, 1, 2, 2);
        runs("NULL", -1, 3, 0, 1, 2, -1);
        build(OF_REFERENCES, 5, 2, 25, 0);
        runs("what is there just now", 2, 3, 0, 1, 2, 3);
        build(OF_REFERENCES, 5, 0, 25, 0);
        runs("the own object", 2, 3, 0, 1, 2, 1);
        build(OF_REFERENCES, 17, 2, 12, 0, 0, 1, 18, 1, 25, 0);
        runs("NEW", 2, 3, 0, 4, 5, 2, -1, 31, 0, 1);
    }

    private void fields() {
        build(GIVES_INT, 5, 1, 20, 0, 23, 0);
        runs("an INT that is not PUT", 1, 0, 0, 2, 3, 0);
        build(GIVES_LONG, 5, 1, 20, 1, 24, 0);
        runs("a LONG that is not PUT", 2, 0, 0, 2, 3, 0);
        build(OF_REFERENCES, 5, 1, 20, 2, 25, 0);
        runs("a REFERENCE that is not PUT", 1, -1, 0, 2, 3, -1);
        build(GIVES_INT, 5, 1, 0, 9, 21, 0, 5, 0, 0, 5, 21, 0, 5, 1, 20, 0, 5, 0, 20, 0, 9, 0, 23, 0);
        runs("INTS of two objects", 1, 0, 0, 11, 12, 14);
        runs("NULL has none", -1, 0, 1, 2, 3, 0, 0, 7);
        build(GIVES_LONG, 5, 1, 1, 9, 21, 1, 5, 1, 20, 1, 24, 0);
        runs("a LONG", 1, 0, 0, 5, 6, 9);
        build(OF_REFERENCES, 5, 0, 5, 1, 21, 2, 5, 0, 20, 2, 25, 0);
        runs("a REFERENCE", 2, -1, 0, 5, 6, 2);
        runs("the own one of another run is another", -1, -1, 0, 5, 6, -1);
        build(OF_REFERENCES, 5, 0, 5, 1, 21, 2, 5, 0, 2, 0, 21, 2, 5, 0, 20, 2, 25, 0);
        runs("NULL is PUT", 2, -1, 0, 8, 9, -1);
        build(GIVES_INT, 5, 0, 5, 1, 21, 2, 5, 1, 0, 8, 21, 0, 5, 0, 20, 2, 20, 0, 23, 0);
        runs("the very object", 1, 0, 0, 9, 10, 8);
    }

    private void fieldsOfEachRun() {
        build(GIVES_INT, 5, 0, 20, 0, 5, 0, 0, 9, 21, 0, 23, 0);
        runs("not PUT so far", 1, 0, 0, 5, 6, 0);
        runs("not PUT in this run", 1, 0, 0, 5, 6, 0);
        build(OF_REFERENCES, 17, 2, 8, 3, 14, 0);
        for (int run = 0; run < 5; run++) {
            runs("many objects", 2, 3, 2, 2, 200, 0, -1, 7, 0, 67, run + 1);
        }
        house.put(4, 0, 5, 1);
        house.put(4, 1, 25, 0);
        runs("objects of a later run", 2, 3, 0, 1, 2, 2, -1, 3, 0, 0, 6);
    }

    private void calls() {
        build(GIVES_LONG, 5, 1, 0, 3, 19, 2, 24, 0);
        runs("a CALL gives 0", 1, 0, 0, 3, 4, 0);
        build(OF_REFERENCES, 5, 1, 19, 3, 25, 0);
        runs("a CALL gives NULL", 1, -1, 0, 2, 3, -1);
        build(OF_INTS, 0, 7, 5, 0);
        house.method(1, false, -1, -1, -1);
        house.add(4, 19, 5);
        house.add(4, 23, 0);
        runs("a CALL gives nothing", 1, 2, 0, 3, 4, 7);
    }

    private void nullThrows() {
        build(PLAIN, 2, 0, 20, 0, 26, 0);
        runs("GET of NULL", 0, 0, 1, 1, 2, 0, 0, 3);
        build(PLAIN, 2, 0, 0, 1, 21, 0, 26, 0);
        runs("PUT of NULL", 0, 0, 1, 2, 3, 0, 0, 7);
        build(PLAIN, 2, 0, 19, 3, 26, 0);
        runs("CALL of NULL", 0, 0, 1, 1, 2, 0, 0);
        build(PLAIN, 2, 0, 28, 0, 26, 0);
        runs("LOCK of NULL", 0, 0, 1, 1, 2, 0, 0, 3, 0);
        build(PLAIN, 5, 0, 28, 0, 2, 0, 29, 0, 26, 0);
        runs("FREE of NULL", 0, 0, 1, 3, 4, 0, 0, 15, 1);
        build(PLAIN, 2, 0, 27, 0);
        runs("THROW of NULL", 0, 0, 1, 1, 2, 0, 0, 3, 0, 0);
        build(OF_REFERENCES, 5, 1, 27, 0);
        runs("THROW of an object", 2, -1, 1, 1, 2, 0, 2, 3);
    }

    private void casts() {
        build(OF_REFERENCES, 5, 1, 22, 2, 25, 0);
        runs("CAST to the own class", 2, -1, 0, 2, 3, 2);
        runs("CAST to a child", 1, -1, 1, 1, 2, 0, 0, 3);
        runs("CAST of NULL", -1, -1, 0, 2, 3, -1);
        build(OF_REFERENCES, 5, 1, 22, 0, 25, 0);
        runs("CAST to the parent's parent", 2, -1, 0, 2, 3, 2);
        build(OF_REFERENCES, 5, 2, 22, 4, 25, 0);
        runs("CAST to an interface", -1, 2, 1, 1, 2, 0, 0, 3);
        runs("CAST of NULL to an interface", -1, -1, 0, 2, 3, -1);
    }

    private void handlers() {
        build(OF_REFERENCES, 5, 1, 27, 0, 25, 0, 2, 0, 25, 0);
        house.handler(4, 0, 1, 3, 0);
        runs("not in the range", 2, -1, 1, 1, 2, 0, 2);
        house.handler(4, 1, 2, 9, 0);
        runs("without a TARGET", 2, -1, 1, 1, 2, 0, 2);
        house.handler(4, 1, 2, 3, 3);
        runs("not of that class", 2, -1, 1, 1, 2, 0, 2);
        house.handler(4, 1, 2, 2, 1);
        runs("of its parent", 2, -1, 0, 2, 3, 2, 2, 7);
        runs("OBJECT is not below that", -1, -1, 1, 1, 2, 0, 0);
        house.clear(4);
        house.handler(4, 0, 24, 3, 4);
        runs("an interface has none", 2, -1, 1, 1, 2, 0, 2);
        house.handler(4, 0, 24, 2, 0);
        house.handler(4, 0, 24, 3, 0);
        runs("the first one", -1, -1, 0, 2, 3, 0, 0, 7);
        build(OF_REFERENCES, 2, 0, 5, 1, 20, 2, 25, 0, 8, 5, 26, 0);
        house.handler(4, 2, 3, 4, 0);
        runs("the STACK has that alone", -1, -1, 3, 5, 4, 0, 0, 23);
        build(PLAIN, 2, 0, 2, 0, 2, 0, 27, 0, 11, 0, 11, 0, 26, 0);
        house.handler(4, 3, 4, 4, 0);
        runs("what was on the STACK is gone", 0, 0, 3, 5, 5, 0, 0, 31);
        build(PLAIN, 2, 0, 28, 0);
        house.handler(4, 1, 2, 1, 0);
        runs("a HANDLER to its own place", 0, 0, 3, 1, 1, 0, -1, 1);
        house.add(4, 26, 0);
        runs("the LOCK of what was THROWN", 0, 0, 3, 2, 3, 0, 0, 3, 1);
        build(PLAIN, 2, 0, 27, 0);
        house.handler(4, 1, 2, 1, 0);
        runs("it goes on and on", 0, 0, 2, 1, 200, 0, 0, 3);
    }

    private void locks() {
        build(PLAIN, 5, 0, 28, 0, 5, 0, 28, 0, 5, 0, 29, 0, 5, 0, 29, 0, 26, 0);
        runs("as many FREE as LOCK", 0, 0, 0, 8, 9, 0, -1, 511, 0);
        house.put(4, 7, 11, 0);
        runs("one FREE too few", 0, 0, 3, 8, 8, 0, -1, 255, 1);
        build(PLAIN, 5, 0, 28, 0, 5, 0, 28, 0, 5, 0, 29, 0, 2, 0, 27, 0);
        runs("THROW with a LOCK, without a range", 0, 0, 3, 7, 7, 0, -1, 127, 1);
        house.handler(4, 7, 8, 20, 0);
        runs("THROW with a LOCK in a range", 0, 0, 1, 7, 8, 0, 0, 255, 1);
        build(PLAIN, 5, 0, 28, 0, 26, 0);
        runs("GIVE with a LOCK", 0, 0, 3, 2, 2, 0, -1, 3, 1);
        build(PLAIN, 2, 0, 29, 0, 26, 0);
        runs("FREE without LOCKS", 0, 0, 3, 1, 1, 0, -1, 1, 0);
        build(PLAIN, 5, 0, 28, 0, 14, 0);
        runs("LOCKS on and on", 0, 0, 2, 2, 200, 0, -1, 7, 67);
    }

    private void makes() {
        build(PLAIN, 17, 1, 8, 3, 14, 0);
        runs("no 7 of NEW and GO", 0, 0, 2, 2, 200, 0, -1, 7, 0, 67);
        build(PLAIN, 17, 1, 14, 0);
        runs("till the STACK is full", 0, 0, 3, 0, 12, 0, -1, 3, 0, 6);
        build(PLAIN, 17, 1, 5, 1, 16, 0, 18, 0, 26, 0);
        runs("LOAD of NOTHING", 0, 0, 3, 1, 1, 0, -1, 1, 0, 1);
        for (int number = -1; number <= 3; number++) {
            build(OF_INTS, 17, 1, 0, number, 6, 3, 1, number, 7, 4, 18, 0, 4, 4, 7, 1, 3, 3, 23, 0);
            runs("INIT changes no number " + number, 5, 6, 0, 9, 10, number, -1, 1023, 0, 1);
        }
        // Two objects made at one place: only that one on top becomes ready.
        build(GIVES_INT, 17, 1, 5, 1, 16, 6, 2, 0, 8, 1, 14, 0, 12, 0, 18, 0, 20, 0, 11, 0, 18, 0, 0, 4, 23, 0);
        runs("INIT of the very object", 1, 0, 0, 12, 16, 4, -1, 8191, 0, 2);
        build(GIVES_INT, 17, 1, 5, 1, 16, 6, 2, 0, 8, 1, 14, 0, 18, 0, 20, 0, 23, 0);
        runs("not of the other one", 1, 0, 3, 7, 10, 0, -1, 127, 0, 2);
        build(PLAIN, 17, 1, 12, 0, 8, 3, 12, 0, 18, 0, 20, 0, 11, 0, 5, 3, 20, 0, 11, 0, 26, 0);
        runs("INIT of all that are it", 0, 0, 0, 10, 11, 0, -1, 2047, 0, 1);
        build(PLAIN, 17, 1, 8, 3, 0, 0, 15, 5, 26, 0, 5, 3, 16, 0, 26, 0);
        runs("MADE for GO", 0, 0, 3, 6, 5);
        build(PLAIN, 2, 0, 11, 0, 17, 1, 18, 0, 26, 0);
        runs("NEW at 2", 0, 0, 0, 4, 5, 0, -1, 31, 0, 1);
        runs("NEW at 2, once more", 0, 0, 0, 4, 5, 0, -1, 31, 0, 1, 2);
        build(OF_INTS, 17, 1, 3, 1, 15, 6, 11, 0, 5, 0, 11, 0, 8, 0, 0, 1, 6, 1, 14, 0);
        runs("NEW makes the LOCAL 0 NOTHING", 0, 0, 3, 4, 11, 0, -1, 975, 0, 2);
        build(OF_INTS, 2, 0, 11, 0, 17, 1, 3, 1, 15, 9, 11, 0, 5, 3, 11, 0, 26, 0, 8, 3, 0, 1, 6, 1, 14, 2);
        runs("NEW at 2 makes a LOCAL NOTHING", 0, 0, 3, 6, 13, 0, -1, 7743, 0, 2);
        // NEW makes what a LOCAL has of its place NOTHING, in a run too.
        build(GIVES_INT, 17, 1, 5, 1, 16, 7, 2, 0, 8, 1, 8, 3, 14, 0, 11, 0, 5, 3, 18, 0, 0, 1, 23, 0);
        runs("what NEW makes NOTHING", 1, 0, 3, 8, 11, 0, -1, 255, 0, 2);
    }

    private void constructors() {
        build(MAKER, 5, 0, 18, 0, 5, 0, 20, 0, 11, 0, 26, 0);
        runs("HALF, then the own class", 0, 0, 0, 5, 6, 0, -1, 63, 0, 0);
        build(MAKER, 5, 0, 18, 0, 17, 1, 18, 0, 26, 0);
        runs("DONE, and then another one", 0, 0, 0, 4, 5, 0, -1, 31, 0, 1);
        build(MAKER, 17, 1, 5, 0, 18, 0, 18, 0, 26, 0);
        runs("another one, and then DONE", 0, 0, 0, 4, 5, 0, -1, 31, 0, 1);
        build(MAKER, 17, 1, 18, 0, 26, 0);
        runs("another one alone", 0, 0, 3, 2, 2, 0, -1, 3, 0, 1);
        build(MAKER, 26, 0);
        runs("GIVE of what is not DONE", 0, 0, 3, 0, 0, 0, -1, 0);
        build(MAKER, 5, 0, 20, 0, 26, 0);
        runs("GET of HALF", 0, 0, 3, 1, 1);
        build(MAKER, 5, 0, 18, 0, 5, 0, 18, 0, 26, 0);
        runs("INIT twice", 0, 0, 3, 3, 3);
        build(MAKER, 5, 0, 18, 0, 5, 0, 27, 0);
        runs("THROW of the own class", 0, 0, 1, 3, 4, 0, 2);
        build(MAKER, 2, 0, 27, 0);
        runs("THROW of what is not DONE", 0, 0, 1, 1, 2, 0, 0);
        build(MAKER, 14, 0);
        runs("no 7 of GO", 0, 0, 2, 0, 200, 0, -1, 1);
    }

    private void wrongOnes() {
        build(PLAIN, 11, 0, 26, 0);
        runs("POP of nothing", 0, 0, 3, 0, 0, 0, -1, 0, 0, 0, 1);
        build(PLAIN, 2, 0);
        runs("nothing behind it", 0, 0, 3, 0, 0, 0, -1, 0);
        build(OF_INTS, 3, 1, 15, 9, 3, 1, 23, 0);
        runs("GO to nothing, though it does not", 1, 0, 3, 1, 1);
        build(OF_INTS, 3, 1, 15, 4, 3, 1, 23, 0, 26, 0);
        runs("WRONG on the one way", 0, 0, 3, 4, 2, 0, -1, 3);
        runs("not on the other one", 6, 0, 0, 3, 4, 6, -1, 15);
        build(OF_REFERENCES, 5, 2, 20, 0, 2, 0, 25, 0);
        runs("what it is just now", -1, 1, 0, 3, 4, -1);
        runs("what it is just now", -1, 3, 3, 1, 1, 0);
        due.same("16: by ways an interface is none", house.ofMethod(4, 0), 2);
        due.same("20: of the latest run", house.ofRun(8), 2);
    }

    private void limit() {
        build(PLAIN, 14, 0);
        runs("200", 0, 0, 2, 0, 200, 0, -1, 1, 0, 0, 1);
        // 2 ahead, then rounds of 10, of which the last one is cut.
        build(OF_INTS, 0, 0, 6, 3, 3, 3, 0, 1, 9, 0, 6, 3, 3, 3, 3, 1, 13, 0, 11, 0, 15, 13, 14, 2, 26, 0, 3, 3,
                23, 0);
        runs("it goes on at the next", 1, 0, 2, 10, 200, 0, -1, 4095);
        build(OF_INTS, 3, 1, 0, -1, 9, 0, 6, 1, 3, 1, 15, 7, 14, 0, 0, 5, 23, 0);
        runs("GIVE is the 200th", 28, 0, 0, 8, 197, 5);
        runs("GIVE behind it", 29, 0, 2, 4, 200, 0);
    }

    /** 195 INSTRUCTIONS are done ahead of the PLACE 7, and four more ahead of 11, which has the 200th. */
    private void buildLong(int... steps) {
        build(OF_INTS, 3, 1, 0, -1, 9, 0, 6, 1, 3, 1, 15, 7, 14, 0, 2, 0, 11, 0);
        for (int i = 0; i < steps.length; i += 2) {
            house.add(4, steps[i], steps[i + 1]);
        }
    }

    /** The last one of 200 can still end it; what would come then is not asked any more. */
    private void lastOfTheLimit() {
        buildLong(0, 3, 0, 5, 23, 0);
        runs("GIVE is the 200th", 28, 0, 0, 11, 200, 5, -1, 4095);
        buildLong(0, 3, 0, 5, 0, 6, 23, 0);
        runs("GIVE would be the 201st", 28, 0, 2, 12, 200, 0, -1, 4095);
        buildLong(2, 0, 2, 0, 27, 0);
        runs("THROW is the 200th", 28, 0, 1, 11, 200, 0, 0, 4095);
        house.handler(4, 11, 12, 7, 0);
        runs("THROW is the 200th, and caught", 28, 0, 2, 7, 200, 0, 0, 4095);
        buildLong(2, 0, 2, 0, 2, 0, 27, 0);
        runs("THROW would be the 201st", 28, 0, 2, 12, 200, 0, -1, 4095);
        buildLong(2, 0, 2, 0, 9, 0, 23, 0);
        runs("WRONG ahead of the 200th", 28, 0, 3, 11, 199, 0, -1, 2047);
        buildLong(2, 0, 2, 0, 2, 0, 9, 0, 23, 0);
        runs("WRONG would be ahead of the 201st", 28, 0, 2, 12, 200, 0, -1, 4095);
        buildLong(2, 0, 2, 0, 14, 0);
        runs("GO is the 200th", 28, 0, 2, 0, 200, 0, -1, 4095);
        buildLong(2, 0, 5, 0, 28, 0, 26, 0);
        runs("LOCK is the 200th", 28, 0, 2, 12, 200, 0, -1, 4095, 1);
        buildLong(2, 0, 2, 0, 17, 1, 26, 0);
        runs("NEW is the 200th", 28, 0, 2, 12, 200, 0, -1, 4095, 0, 1);
    }

    /** Each INSTRUCTION but the first ones makes an object, till 200 are done. */
    private void objectsOfOneRun() {
        build(OF_REFERENCES, 2, 0, 27, 0, 22, 1, 25, 0);
        house.handler(4, 1, 3, 2, 0);
        runs("CAST of what it threw", 2, 3, 2, 2, 200, 0, 0, 7, 0, 0, 1);
    }

    private void startsAnew() {
        build(OF_REFERENCES, 5, 1, 16, 4, 5, 1, 8, 0, 5, 0, 25, 0);
        runs("another object in the LOCAL 0", 2, -1, 0, 5, 6, 2);
        runs("the own one is there again", -1, -1, 0, 5, 4, 1);
        build(OF_INTS, 3, 1, 15, 6, 5, 0, 28, 0, 0, 1, 14, 2, 0, 3, 23, 0);
        runs("with LOCKS and words", 1, 0, 3, 2, 26, 0, -1, 63, 6, 0, 1);
        runs("without them", 0, 0, 0, 7, 4, 3, -1, 195, 0, 0, 2);
        build(GIVES_INT, 5, 1, 16, 4, 5, 1, 27, 0, 0, 3, 23, 0);
        runs("THROWN", 2, 0, 1, 3, 4, 0, 2, 15);
        runs("nothing is THROWN", -1, 0, 0, 5, 4, 3, -1, 51);
        build(PLAIN, 17, 1, 18, 0, 26, 0);
        runs("one is made", 0, 0, 0, 2, 3, 0, -1, 7, 0, 1, 1);
        runs("one again, not two", 0, 0, 0, 2, 3, 0, -1, 7, 0, 1, 2);
        build(MAKER, 5, 0, 18, 0, 26, 0);
        runs("DONE", 0, 0, 0, 2, 3);
        house.put(4, 1, 11, 0);
        runs("not DONE as it begins", 0, 0, 3, 2, 2);
    }

    /** What is got of a FIELD has the MARK of what was PUT there. */
    private void marksOfFields() {
        build(OF_REFERENCES, 5, 0, 5, 1, 21, 2, 5, 0, 20, 2);
        house.field(2, 0, 0);
        house.add(4, 20, 3);
        house.add(4, 11, 0);
        house.add(4, 2, 0);
        house.add(4, 25, 0);
        runs("the FIELD of a child", 2, -1, 0, 8, 9, -1);
        runs("the parent has none", 1, -1, 3, 5, 5);
        runs("NULL is PUT", -1, -1, 1, 5, 6, 0, 0);
    }
}
