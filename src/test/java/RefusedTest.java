import java.util.ArrayList;
import java.util.List;

/** Every refused call throws what is named first, and changes nothing that can be asked afterwards. */
public final class RefusedTest {
    private static final int MAX = Integer.MAX_VALUE;
    private static final int MIN = Integer.MIN_VALUE;
    private static final Class<? extends RuntimeException> NO_SUCH = IndexOutOfBoundsException.class;
    private static final Class<? extends RuntimeException> NOT_RIGHT = IllegalArgumentException.class;
    private static final Class<? extends RuntimeException> NOT_NOW = IllegalStateException.class;

    private final Due due = new Due();

    public static void main(String[] args) {
        RefusedTest test = new RefusedTest();
        test.drainTellsWhatChanges();
        test.kind();
        test.field();
        test.method();
        test.marks();
        test.add();
        test.put();
        test.cut();
        test.handler();
        test.map();
        test.word();
        test.found();
        test.run();
        test.many();
        test.wouldBe();
        test.due.end();
    }

    private interface Call {
        int on(FramemapHouse house);
    }

    /**
     * CLASSES 1, 2 below 1, the INTERFACE 3; METHODS: 0 with CODE, MAPS and HANDLERS, 1 a CONSTRUCTOR, 2 without
     * CODE; of a full one there are 10 CLASSES, 10 FIELDS, 6 METHODS, and of the METHOD 0 24 INSTRUCTIONS and
     * 4 HANDLERS.
     */
    private static FramemapHouse build(boolean isFull) {
        FramemapHouse house = new FramemapHouse();
        house.kind(0, false, 1);
        house.kind(1, false, 2);
        house.kind(0, true, 0);
        house.field(1, 0, 2);
        house.field(2, 1, 0);
        house.method(1, false, 0, 13, 0);
        house.method(2, true, -1, -1, -1);
        house.method(1, false, 12, -1, -1);
        tell(house, 0, 3, 1, 0, 42, 12, 0, 13, 0, 2, 0, 11, 0, 11, 0, 9, 0, 23, 0);
        tell(house, 1, 5, 0, 18, 1, 26, 0);
        house.handler(0, 2, 5, 8, 0);
        house.map(0, 0, 0, 0, true);
        house.map(0, 5, 6, 2, false);
        house.word(0, 5, 0, 11);
        house.word(0, 5, 11, 104);
        house.map(0, 23, 2, 9, true);
        house.word(0, 23, 7, 5);
        for (int i = 0; isFull && i < 6; i++) {
            house.kind(0, false, 3);
        }
        for (int i = 0; isFull && i < 8; i++) {
            house.field(1, 10, 3);
        }
        for (int i = 0; isFull && i < 3; i++) {
            house.method(0, false, -1, -1, -1);
            house.handler(0, 20 + i, 24, 0, 1);
        }
        for (int i = 9; isFull && i < 24; i++) {
            house.add(0, 26, 0);
        }
        house.run(1, 0, 0);
        house.run(0, 7, 1);
        return house;
    }

    private static void tell(FramemapHouse house, int method, int... steps) {
        for (int i = 0; i < steps.length; i += 2) {
            house.add(method, steps[i], steps[i + 1]);
        }
    }

    private static int answer(FramemapHouse house, Call call) {
        try {
            return call.on(house);
        } catch (IndexOutOfBoundsException thrown) {
            return -1001;
        } catch (IllegalArgumentException thrown) {
            return -1002;
        } catch (IllegalStateException thrown) {
            return -1003;
        }
    }

    /** All that the house answers; it is changed by that, and asked no more afterwards. */
    private static List<Integer> drained(FramemapHouse house) {
        List<Integer> answers = new ArrayList<>();
        long sum = house.digest();
        answers.add((int) sum);
        answers.add((int) (sum >> 32));
        for (int number = 0; number < 3; number++) {
            int method = number;
            for (int field = 0; field < 3; field++) {
                int asked = field;
                answers.add(answer(house, x -> x.verdictBy(method, asked, 3)));
                answers.add(answer(house, x -> x.verdictBy(method, asked, 0)));
            }
            for (int word = 0; word < 12; word++) {
                int asked = word;
                answers.add(answer(house, x -> x.word(method, 5, asked, 0)));
                answers.add(answer(house, x -> x.word(method, 23, asked, 0)));
            }
            answers.add(answer(house, x -> x.run(method, 5, -1)));
            answers.add(house.ofRun(3));
            answers.add(house.ofRun(8));
            answers.add(answer(house, x -> x.handler(method, 0, 24, 3, 0)));
            answers.add(answer(house, x -> x.ofMethod(method, 0)));
            answers.add(answer(house, x -> x.clear(method)));
            answers.add(answer(house, x -> x.suggest(method)));
            answers.add(answer(house, x -> x.add(method, 26, 0)));
            for (int place = 0; place < 24; place++) {
                answers.add(answer(house, x -> x.cut(method)));
            }
        }
        answers.add(answer(house, x -> x.kind(2, false, 0)));
        answers.add(answer(house, x -> x.isBelow(4, 2) ? 1 : 0));
        answers.add(answer(house, x -> x.field(2, 0, 0)));
        answers.add(answer(house, x -> x.method(2, true, -1, -1, -1)));
        return answers;
    }

    /** Otherwise the comparisons below would say nothing. */
    private void drainTellsWhatChanges() {
        Call[] changes = {x -> x.kind(0, false, 0), x -> x.field(0, 0, 0), x -> x.method(0, false, -1, -1, -1),
            x -> x.add(2, 26, 0), x -> x.put(0, 1, 0, 41), x -> x.cut(0), x -> x.handler(2, 0, 1, 0, 0), x -> x.clear(0),
            x -> x.map(0, 5, 6, 2, false), x -> x.map(0, 9, 0, 0, false), x -> x.word(0, 5, 3, 1), x -> x.suggest(0),
            x -> x.run(0, 7, 1), x -> x.word(0, 23, 7, 4)};
        for (int i = 0; i < changes.length; i++) {
            FramemapHouse house = build(false);
            changes[i].on(house);
            due.same("the change " + i + " shows", drained(house).equals(drained(build(false))), false);
        }
        due.same("nothing else shows", drained(build(false)).equals(drained(build(false))), true);
        due.same("nothing else shows", drained(build(true)).equals(drained(build(true))), true);
    }

    private void refused(String label, boolean isFull, Class<? extends RuntimeException> expected, Call call) {
        FramemapHouse house = build(isFull);
        Class<?> got = null;
        try {
            call.on(house);
        } catch (RuntimeException thrown) {
            got = thrown.getClass();
        }
        String name = label + (isFull ? ", of a full house" : "");
        due.same(name + " threw " + got + ": as due", got == expected, true);
        due.same(name + " changes nothing", drained(house).equals(drained(build(isFull))), true);
    }

    private void both(String label, Class<? extends RuntimeException> expected, Call call) {
        refused(label, false, expected, call);
        refused(label, true, expected, call);
    }

    private void kind() {
        for (int parent : new int[] {-1, 10, MAX, MIN}) {
            both("2: no such PARENT", NOT_RIGHT, x -> x.kind(parent, false, 0));
            both("2: no such PARENT, PACKAGE", NOT_RIGHT, x -> x.kind(parent, true, 4));
        }
        both("2: an INTERFACE for PARENT", NOT_RIGHT, x -> x.kind(3, false, 0));
        both("2: an INTERFACE for an INTERFACE", NOT_RIGHT, x -> x.kind(3, true, 0));
        both("2: not OBJECT for an INTERFACE", NOT_RIGHT, x -> x.kind(1, true, 0));
        both("2: no PACKAGE -1", NOT_RIGHT, x -> x.kind(0, false, -1));
        both("2: no PACKAGE 4", NOT_RIGHT, x -> x.kind(0, true, 4));
        refused("2: ten CLASSES", true, NOT_NOW, x -> x.kind(0, false, 0));
        refused("2: ten CLASSES", true, NOT_NOW, x -> x.kind(0, true, 3));
        refused("2: ten CLASSES", true, NOT_NOW, x -> x.kind(9, false, 3));
    }

    private void field() {
        for (int kind : new int[] {-1, 10, MAX, MIN}) {
            both("3: no such CLASS", NO_SUCH, x -> x.field(kind, 0, 0));
            both("3: no such CLASS, TYPE, ACCESS", NO_SUCH, x -> x.field(kind, 2, 4));
        }
        refused("3: no CLASS so far", false, NO_SUCH, x -> x.field(4, 0, 0));
        both("3: an INTERFACE", NOT_RIGHT, x -> x.field(3, 0, 0));
        both("3: no TYPE", NOT_RIGHT, x -> x.field(1, -1, 0));
        both("3: no TYPE", NOT_RIGHT, x -> x.field(1, 2, 0));
        both("3: no TYPE", NOT_RIGHT, x -> x.field(1, 20, 0));
        both("3: no ACCESS", NOT_RIGHT, x -> x.field(1, 0, 4));
        both("3: no ACCESS", NOT_RIGHT, x -> x.field(1, 0, -1));
        refused("3: ten FIELDS", true, NOT_NOW, x -> x.field(1, 0, 0));
    }

    private void method() {
        for (int kind : new int[] {-1, 10, MAX, MIN}) {
            both("4: no such CLASS", NO_SUCH, x -> x.method(kind, false, -1, -1, -1));
            both("4: no such CLASS, nor TYPE", NO_SUCH, x -> x.method(kind, true, 2, 2, 2));
        }
        both("4: an INTERFACE", NOT_RIGHT, x -> x.method(3, false, -1, -1, -1));
        both("4: no first TYPE", NOT_RIGHT, x -> x.method(1, false, -2, -1, -1));
        both("4: no second TYPE", NOT_RIGHT, x -> x.method(1, false, 0, 2, -1));
        both("4: no RESULT", NOT_RIGHT, x -> x.method(1, false, -1, -1, 9));
        both("4: a second one alone", NOT_RIGHT, x -> x.method(1, false, -1, 0, -1));
        both("4: a RESULT of a CONSTRUCTOR", NOT_RIGHT, x -> x.method(1, true, -1, -1, 10));
        refused("4: six METHODS", true, NOT_NOW, x -> x.method(1, true, -1, -1, -1));
        refused("4: six METHODS", true, NOT_NOW, x -> x.method(1, false, 0, 1, 10));
    }

    private void marks() {
        for (int kind : new int[] {-1, 10, MAX, MIN}) {
            both("5: no CLASS", NO_SUCH, x -> x.isBelow(kind, 0) ? 1 : 0);
            both("5: no other CLASS", NO_SUCH, x -> x.isBelow(0, kind) ? 1 : 0);
            both("5: no CLASS at all", NO_SUCH, x -> x.isBelow(kind, kind) ? 1 : 0);
        }
        for (int mark : new int[] {-1, 6, 9, 20, 99, 124, MAX, MIN}) {
            both("6: no MARK", NOT_RIGHT, x -> x.isFit(mark, 0) ? 1 : 0);
            both("6: no MARK, twice", NOT_RIGHT, x -> x.isFit(mark, mark) ? 1 : 0);
            both("7: no MARK", NOT_RIGHT, x -> x.common(0, mark));
            both("7: no MARK, twice", NOT_RIGHT, x -> x.common(mark, mark));
        }
    }

    private void add() {
        for (int method : new int[] {-1, 6, MAX, MIN}) {
            both("8: no METHOD", NO_SUCH, x -> x.add(method, 26, 0));
            both("8: no METHOD, nor OP", NO_SUCH, x -> x.add(method, 30, 1));
        }
        both("8: no OP", NOT_RIGHT, x -> x.add(0, 30, 0));
        both("8: no OP", NOT_RIGHT, x -> x.add(0, -1, 0));
        both("8: no a", NOT_RIGHT, x -> x.add(0, 0, 100));
        both("8: an a where none is told", NOT_RIGHT, x -> x.add(0, 26, 1));
        both("8: NEW of an INTERFACE", NOT_RIGHT, x -> x.add(0, 17, 3));
        both("8: INIT by a METHOD", NOT_RIGHT, x -> x.add(0, 18, 0));
        both("8: CALL of a CONSTRUCTOR", NOT_RIGHT, x -> x.add(0, 19, 1));
        both("8: GET of no FIELD", NOT_RIGHT, x -> x.add(0, 20, 10));
        both("8: CAST to no CLASS", NOT_RIGHT, x -> x.add(0, 22, 10));
        refused("8: 24 INSTRUCTIONS", true, NOT_NOW, x -> x.add(0, 26, 0));
    }

    private void put() {
        for (int method : new int[] {-1, 6, MAX, MIN}) {
            both("9: no METHOD", NO_SUCH, x -> x.put(method, 0, 26, 0));
            both("9: no METHOD, PLACE, OP", NO_SUCH, x -> x.put(method, 24, 30, 1));
        }
        for (int place : new int[] {-1, 24, MAX, MIN}) {
            both("9: no INSTRUCTION", NO_SUCH, x -> x.put(0, place, 26, 0));
            both("9: no INSTRUCTION, nor OP", NO_SUCH, x -> x.put(0, place, 30, 0));
        }
        refused("9: behind the CODE", false, NO_SUCH, x -> x.put(0, 9, 26, 0));
        both("9: without CODE", NO_SUCH, x -> x.put(2, 0, 26, 0));
        both("9: no OP", NOT_RIGHT, x -> x.put(0, 1, 30, 0));
        both("9: no a", NOT_RIGHT, x -> x.put(0, 1, 0, -100));
    }

    private void cut() {
        for (int method : new int[] {-1, 6, MAX, MIN}) {
            both("10: no METHOD", NO_SUCH, x -> x.cut(method));
            both("12: no METHOD", NO_SUCH, x -> x.clear(method));
            both("15: no METHOD", NO_SUCH, x -> x.suggest(method));
        }
        both("10: without CODE", NOT_NOW, x -> x.cut(2));
    }

    private void handler() {
        for (int number : new int[] {-1, 10, MAX, MIN}) {
            both("11: no METHOD", NO_SUCH, x -> x.handler(number, 0, 1, 0, 0));
            both("11: no METHOD, range", NO_SUCH, x -> x.handler(number, 1, 1, 24, 0));
            both("11: no CLASS", NO_SUCH, x -> x.handler(0, 0, 1, 0, number));
            both("11: no CLASS, range", NO_SUCH, x -> x.handler(0, -1, 25, -1, number));
        }
        both("11: from -1", NOT_RIGHT, x -> x.handler(0, -1, 1, 0, 0));
        both("11: from 24", NOT_RIGHT, x -> x.handler(0, 24, 25, 0, 0));
        both("11: to not above from", NOT_RIGHT, x -> x.handler(0, 5, 5, 0, 0));
        both("11: to above 24", NOT_RIGHT, x -> x.handler(0, 5, 25, 0, 0));
        both("11: target -1", NOT_RIGHT, x -> x.handler(0, 5, 6, -1, 0));
        both("11: target 24", NOT_RIGHT, x -> x.handler(0, 5, 6, 24, 0));
        refused("11: four HANDLERS", true, NOT_NOW, x -> x.handler(0, 5, 6, 0, 0));
    }

    private void map() {
        for (int method : new int[] {-1, 6, MAX, MIN}) {
            both("13: no METHOD", NO_SUCH, x -> x.map(method, 5, 0, 0, true));
            both("13: no METHOD, PLACE", NO_SUCH, x -> x.map(method, 24, 7, 10, true));
        }
        for (int place : new int[] {-1, 24, MAX, MIN}) {
            both("13: no PLACE", NOT_RIGHT, x -> x.map(0, place, 0, 0, true));
        }
        for (int words : new int[] {-1, 7, MAX, MIN}) {
            both("13: no such words", NOT_RIGHT, x -> x.map(0, 5, words, 0, true));
            both("13: no such words", NOT_RIGHT, x -> x.map(0, 6, words, 0, true));
        }
        for (int locks : new int[] {-1, 10, MAX, MIN}) {
            both("13: no such LOCKS", NOT_RIGHT, x -> x.map(0, 5, 0, locks, true));
            both("13: no such LOCKS", NOT_RIGHT, x -> x.map(0, 6, 0, locks, true));
        }
    }

    private void word() {
        for (int method : new int[] {-1, 6, MAX, MIN}) {
            both("14: no METHOD", NO_SUCH, x -> x.word(method, 5, 0, 0));
            both("14: no METHOD, nor MARK", NO_SUCH, x -> x.word(method, 5, 0, 6));
        }
        for (int place : new int[] {-1, 4, 24, MAX, MIN}) {
            both("14: no MAP", NO_SUCH, x -> x.word(0, place, 0, 0));
            both("14: no MAP, nor MARK", NO_SUCH, x -> x.word(0, place, 0, 6));
        }
        both("14: a METHOD without MAPS", NO_SUCH, x -> x.word(2, 5, 0, 0));
        for (int word : new int[] {-1, 8, 12, MAX, MIN}) {
            both("14: no word in it", NO_SUCH, x -> x.word(0, 23, word, 1));
            both("14: no word in it, nor MARK", NO_SUCH, x -> x.word(0, 23, word, -1));
        }
        for (int mark : new int[] {-1, 6, 9, 20, 99, 124, MAX, MIN}) {
            both("14: no MARK", NOT_RIGHT, x -> x.word(0, 5, 11, mark));
        }
        refused("14: no MARK so far", false, NOT_RIGHT, x -> x.word(0, 5, 11, 14));
    }

    private void found() {
        for (int method : new int[] {-1, 6, MAX, MIN}) {
            both("16: no METHOD", NO_SUCH, x -> x.ofMethod(method, 0));
            both("16: no METHOD, what", NO_SUCH, x -> x.ofMethod(method, 9));
            both("17: no METHOD", NO_SUCH, x -> x.ofFrame(method, 0, 0));
            both("17: no METHOD, what", NO_SUCH, x -> x.ofFrame(method, 0, 5));
            both("18: no METHOD", NO_SUCH, x -> x.mark(method, 0, 0));
            both("22: no METHOD", NO_SUCH, x -> (int) x.meanWords(method));
        }
        for (int place : new int[] {-1, 24, MAX, MIN}) {
            both("17: no INSTRUCTION", NO_SUCH, x -> x.ofFrame(0, place, 0));
            both("17: no INSTRUCTION, what", NO_SUCH, x -> x.ofFrame(0, place, -1));
            both("18: no INSTRUCTION", NO_SUCH, x -> x.mark(0, place, 0));
        }
        both("17: without CODE", NO_SUCH, x -> x.ofFrame(2, 0, 0));
        both("18: without CODE", NO_SUCH, x -> x.mark(2, 0, 0));
        both("18: no word", NO_SUCH, x -> x.mark(0, 1, 7));
        both("18: no word", NO_SUCH, x -> x.mark(0, 1, -1));
        refused("18: of a DEAD one", true, NO_SUCH, x -> x.mark(0, 20, 0));
        for (int what : new int[] {-1, 9, MAX, MIN}) {
            both("16: no what", NOT_RIGHT, x -> x.ofMethod(0, what));
            both("16: no what, without CODE", NOT_RIGHT, x -> x.ofMethod(2, what));
        }
        for (int what : new int[] {-1, 5, MAX, MIN}) {
            both("17: no what", NOT_RIGHT, x -> x.ofFrame(0, 0, what));
        }
    }

    private void run() {
        for (int method : new int[] {-1, 6, MAX, MIN}) {
            both("19: no METHOD", NO_SUCH, x -> x.run(method, 0, 0));
            both("19: no METHOD, argument", NO_SUCH, x -> x.run(method, 99, 99));
        }
        for (int given : new int[] {-2, 3, 10, MAX, MIN}) {
            both("19: no such second one", NOT_RIGHT, x -> x.run(0, 0, given));
            both("19: no such first one, without CODE", NOT_RIGHT, x -> x.run(2, given, 0));
        }
        both("19: not FIT for it", NOT_RIGHT, x -> x.run(2, 1, 0));
        both("19: OBJECT is not FIT for it", NOT_RIGHT, x -> x.run(2, 0, 0));
        both("19: no ARGUMENTS", NOT_RIGHT, x -> x.run(1, 1, 0));
        both("19: no ARGUMENTS", NOT_RIGHT, x -> x.run(1, 0, -1));
        both("19: no second ARGUMENT, without CODE", NOT_RIGHT, x -> x.run(2, 2, 1));
        both("19: without CODE", NOT_NOW, x -> x.run(2, 2, 0));
        both("19: without CODE", NOT_NOW, x -> x.run(2, -1, 0));
    }

    private void many() {
        for (int what : new int[] {-1, 9, MAX, MIN}) {
            both("20: no what", NOT_RIGHT, x -> x.ofRun(what));
            both("21: no what", NOT_RIGHT, x -> x.many(what));
        }
        both("21: no what", NOT_RIGHT, x -> x.many(7));
    }

    private void wouldBe() {
        for (int number : new int[] {-1, 10, MAX, MIN}) {
            both("23: no METHOD", NO_SUCH, x -> x.verdictWith(number, 0, 26, 0));
            both("23: no METHOD, OP", NO_SUCH, x -> x.verdictWith(number, 0, 30, 0));
            both("24: no METHOD", NO_SUCH, x -> x.verdictBare(number));
            both("25: no METHOD", NO_SUCH, x -> x.verdictBy(number, 0, 0));
            both("25: no METHOD, ACCESS", NO_SUCH, x -> x.verdictBy(number, 0, 4));
            both("25: no FIELD", NO_SUCH, x -> x.verdictBy(0, number, 0));
            both("25: no FIELD, ACCESS", NO_SUCH, x -> x.verdictBy(0, number, -1));
        }
        for (int place : new int[] {-1, 24, MAX, MIN}) {
            both("23: no INSTRUCTION", NO_SUCH, x -> x.verdictWith(0, place, 26, 0));
            both("23: no INSTRUCTION, OP", NO_SUCH, x -> x.verdictWith(0, place, -1, 0));
        }
        both("23: without CODE", NO_SUCH, x -> x.verdictWith(2, 0, 26, 0));
        for (int op : new int[] {-1, 30, MAX, MIN}) {
            both("23: no OP", NOT_RIGHT, x -> x.verdictWith(0, 0, op, 0));
        }
        both("23: no a", NOT_RIGHT, x -> x.verdictWith(0, 1, 0, 100));
        both("23: an a where none is told", NOT_RIGHT, x -> x.verdictWith(0, 1, 26, 1));
        for (int access : new int[] {-1, 4, MAX, MIN}) {
            both("25: no ACCESS", NOT_RIGHT, x -> x.verdictBy(0, 0, access));
        }
    }
}
