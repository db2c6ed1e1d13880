import java.util.function.IntPredicate;
import java.util.function.IntSupplier;

/** How many there can be of each, and the range of each number that a call is given, on both sides of the limit. */
public final class LimitsTest {
    private static final int MAX = Integer.MAX_VALUE;
    private static final int MIN = Integer.MIN_VALUE;
    private static final Class<? extends RuntimeException> NO_SUCH = IndexOutOfBoundsException.class;
    private static final Class<? extends RuntimeException> NOT_RIGHT = IllegalArgumentException.class;
    private static final Class<? extends RuntimeException> NOT_NOW = IllegalStateException.class;

    private final Due due = new Due();

    public static void main(String[] args) {
        LimitsTest test = new LimitsTest();
        test.tenClasses();
        test.tenClassesInALine();
        test.tenFields();
        test.sixMethods();
        test.placesOfCode();
        test.twentyFourInstructions();
        test.lastPlaces();
        test.fourHandlers();
        test.fourthHandlerCounts();
        test.rangesOfHandlers();
        test.parents();
        test.packages();
        test.accesses();
        test.types();
        test.marks();
        test.instructions();
        test.numbers();
        test.locals();
        test.sixWords();
        test.sixWordsOfARun();
        test.wordsOfAMap();
        test.locksOfAMap();
        test.nineLocksOfAMap();
        test.whats();
        test.wordsOfAFrame();
        test.givenArguments();
        test.callsOfAHouse();
        test.due.end();
    }

    /** What a call throws; null, if nothing. */
    private static Class<?> thrownBy(IntSupplier call) {
        try {
            call.getAsInt();
            return null;
        } catch (RuntimeException thrown) {
            return thrown.getClass();
        }
    }

    private void takes(String label, Class<?> dueOtherwise, boolean isRight, IntSupplier call) {
        Class<?> got = thrownBy(call);
        due.same(label + " threw " + got + ": right", got == (isRight ? null : dueOtherwise), true);
    }

    /** Each number of a range, one less and one more, and far ones. */
    private void takesOnly(String label, Class<?> dueOtherwise, int least, int most, IntPredicate isRight,
            java.util.function.IntUnaryOperator call) {
        for (int number = least - 2; number <= most + 2; number++) {
            int given = number;
            takes(label + " " + given, dueOtherwise, isRight.test(given), () -> call.applyAsInt(given));
        }
        for (int given : new int[] {MAX, MIN, MAX - 1, MIN + 1, 1 << 16, -(1 << 16)}) {
            takes(label + " " + given, dueOtherwise, isRight.test(given), () -> call.applyAsInt(given));
        }
    }

    private void takesFromTo(String label, Class<?> dueOtherwise, int least, int most,
            java.util.function.IntUnaryOperator call) {
        takesOnly(label, dueOtherwise, least, most, given -> given >= least && given <= most, call);
    }

    private static FramemapHouse houseOf(int kinds) {
        FramemapHouse house = new FramemapHouse();
        for (int kind = 1; kind < kinds; kind++) {
            house.kind(0, false, 0);
        }
        return house;
    }

    private static void tell(FramemapHouse house, int method, int... steps) {
        for (int i = 0; i < steps.length; i += 2) {
            house.add(method, steps[i], steps[i + 1]);
        }
    }

    private void tenClasses() {
        for (boolean isInterface : new boolean[] {false, true}) {
            FramemapHouse house = new FramemapHouse();
            for (int number = 1; number < 10; number++) {
                due.same("1: CLASSES so far", house.many(0), number);
                due.same("2: a CLASS", house.kind(0, isInterface, 0), number);
            }
            due.notNow(house, "2: an eleventh CLASS", () -> house.kind(0, false, 0));
            due.notNow(house, "2: an eleventh INTERFACE", () -> house.kind(0, true, 3));
            due.same("1: ten CLASSES", house.many(0), 10);
        }
    }

    /** The longest way up that there is, OBJECT with it. */
    private void tenClassesInALine() {
        FramemapHouse house = new FramemapHouse();
        for (int number = 1; number < 10; number++) {
            house.kind(number - 1, false, 0);
        }
        for (int one = 0; one < 10; one++) {
            for (int other = 0; other < 10; other++) {
                due.same("1: BELOW", house.isBelow(one, other), one >= other);
                due.same("3: FIT", house.isFit(10 + one, 10 + other), one >= other);
                due.same("3: COMMON", house.common(10 + one, 10 + other), 10 + Math.min(one, other));
            }
        }
    }

    private void tenFields() {
        FramemapHouse house = houseOf(2);
        house.method(1, false, -1, -1, -1);
        for (int number = 0; number < 10; number++) {
            int field = number;
            due.notRight(house, "8: GET of no FIELD so far", () -> house.add(0, 20, field));
            due.notRight(house, "8: PUT of no FIELD so far", () -> house.add(0, 21, field));
            due.noSuch(house, "25: no FIELD so far", () -> house.verdictBy(0, field, 0));
            due.same("3: FIELDS so far", house.many(1), number);
            due.same("3: a FIELD", house.field(1, 0, 0), number);
            due.same("8: GET", house.add(0, 20, field), number);
            due.same("25: of the FIELD", house.verdictBy(0, field, 0), 1);
        }
        due.notNow(house, "3: an eleventh FIELD", () -> house.field(1, 0, 0));
        due.notRight(house, "8: GET of the eleventh FIELD", () -> house.add(0, 20, 10));
        due.noSuch(house, "25: the eleventh FIELD", () -> house.verdictBy(0, 10, 0));
        due.same("1: ten FIELDS", house.many(1), 10);
    }

    private void sixMethods() {
        for (boolean isMaker : new boolean[] {false, true}) {
            FramemapHouse house = houseOf(2);
            for (int number = 0; number < 6; number++) {
                int method = number;
                due.noSuch(house, "8: no METHOD so far", () -> house.add(method, 26, 0));
                due.noSuch(house, "19: no METHOD so far", () -> house.run(method, 0, 0));
                due.same("4: METHODS so far", house.many(2), number);
                due.same("4: a METHOD", house.method(1, isMaker, -1, -1, -1), number);
                due.same("8: its first INSTRUCTION", house.add(method, isMaker ? 18 : 19, method), 0);
                int next = number + 1;
                due.notRight(house, "8: of no METHOD", () -> house.add(method, isMaker ? 18 : 19, next));
            }
            due.notNow(house, "4: a seventh METHOD", () -> house.method(1, isMaker, -1, -1, -1));
            due.same("1: six METHODS", house.many(2), 6);
            due.same("21: one INSTRUCTION of each", house.many(3), 6);
        }
    }

    /** What has a PLACE for an argument asks for an INSTRUCTION there. */
    private void placesOfCode() {
        for (int length : new int[] {0, 1, 2, 23, 24}) {
            FramemapHouse house = houseOf(1);
            house.method(0, false, -1, -1, -1);
            for (int place = 0; place < length; place++) {
                house.add(0, 14, Math.min(place + 1, length - 1));
            }
            String of = " of " + length + ", at";
            takesFromTo("9: put" + of, NO_SUCH, 0, length - 1, place -> house.put(0, place, 14, length - 1));
            takesFromTo("17: ofFrame" + of, NO_SUCH, 0, length - 1, place -> house.ofFrame(0, place, 0));
            takesFromTo("23: verdictWith" + of, NO_SUCH, 0, length - 1, place -> house.verdictWith(0, place, 2, 0));
            takesOnly("18: mark" + of, NO_SUCH, 0, length - 1, place -> length > 0 && (place == 0 || place == length - 1),
                    place -> house.mark(0, place, 0));
        }
    }

    private void twentyFourInstructions() {
        FramemapHouse house = houseOf(1);
        house.method(0, false, -1, -1, -1);
        house.method(0, false, -1, -1, -1);
        for (int place = 0; place < 24; place++) {
            due.same("8: its PLACE", house.add(0, 26, 0), place);
        }
        due.notNow(house, "8: a 25th INSTRUCTION", () -> house.add(0, 26, 0));
        due.same("21: 24 of them", house.many(3), 24);
        due.same("16: 23 are DEAD", house.ofMethod(0, 4), 23);
        due.same("10: the last one", house.cut(0), 26);
        due.same("8: the last PLACE again", house.add(0, 2, 0), 23);
        due.notNow(house, "8: full again", () -> house.add(0, 26, 0));
        due.same("9: put at the last PLACE", house.put(0, 23, 14, 0), 2);
        due.same("8: of another METHOD", house.add(1, 26, 0), 0);
        for (int left = 24; left > 0; left--) {
            due.same("10: cut", house.cut(0), left == 24 ? 14 : 26);
        }
        due.notNow(house, "10: cut of nothing", () -> house.cut(0));
        due.same("10: but the other one's", house.many(3), 1);
    }

    /** GO to the last PLACE, a HANDLER and a MAP there, and NEW ahead of it. */
    private void lastPlaces() {
        FramemapHouse house = houseOf(2);
        house.method(1, false, -1, -1, -1);
        tell(house, 0, 14, 22);
        for (int place = 1; place < 22; place++) {
            house.add(0, 26, 0);
        }
        tell(house, 0, 17, 1);
        due.same("4: nothing behind it", house.ofMethod(0, 0), 4);
        due.same("4: its PLACE", house.ofMethod(0, 1), 22);
        house.put(0, 0, 14, 23);
        due.same("4: GO to 23 of 23", house.ofMethod(0, 0), 4);
        due.same("4: the PLACE of the GO", house.ofMethod(0, 1), 0);
        house.add(0, 26, 0);
        due.same("4: GO to 23 of 24", house.ofMethod(0, 0), 0);
        house.put(0, 0, 14, 22);
        due.same("3: MADE at 22", house.mark(0, 23, 6), 122);
        due.same("2: the last PLACE is run", house.run(0, 0, 0), 0);
        due.same("20: it ended there", house.ofRun(1), 23);
        due.same("20: the set of PLACES", house.ofRun(5), 1 | 1 << 22 | 1 << 23);
        house.put(0, 22, 14, 23);
        due.same("15: MAPS at 22 and 23", house.suggest(0), 2);
        house.put(0, 23, 2, 0);
        due.same("4: nothing behind the last PLACE", house.ofMethod(0, 0), 4);
        due.same("4: its PLACE", house.ofMethod(0, 1), 23);
        due.same("19: nothing behind the last PLACE", house.run(0, 0, 0), 3);
        house.put(0, 23, 27, 0);
        house.put(0, 22, 2, 0);
        house.handler(0, 23, 24, 23, 0);
        due.same("5: a HANDLER from the last PLACE to itself", house.ofMethod(0, 0), 0);
        due.same("5: what meets there", house.mark(0, 23, 6), 10);
        due.same("7: it goes on and on", house.run(0, 0, 0), 2);
        due.same("6: a MAP at the last PLACE", house.map(0, 23, 1, 0, true), 2);
        due.same("14: the last MADE", house.word(0, 23, 6, 123), 0);
        due.same("14: it is kept", house.word(0, 23, 6, 10), 123);
    }

    private void fourHandlers() {
        FramemapHouse house = houseOf(1);
        house.method(0, false, -1, -1, -1);
        house.method(0, false, -1, -1, -1);
        for (int round = 0; round < 2; round++) {
            for (int number = 1; number <= 4; number++) {
                due.same("11: a HANDLER", house.handler(0, 0, 24, 0, 0), number);
                due.same("16: HANDLERS", house.ofMethod(0, 8), number);
            }
            due.notNow(house, "11: a fifth HANDLER", () -> house.handler(0, 0, 24, 0, 0));
            due.same("21: HANDLERS", house.many(6), 4 + round);
            due.same("11: of another METHOD", house.handler(1, 0, 1, 0, 0), round + 1);
            due.same("12: all four", house.clear(0), 4);
            due.same("12: none", house.clear(0), 0);
        }
    }

    private void fourthHandlerCounts() {
        FramemapHouse house = houseOf(2);
        house.method(1, false, -1, -1, -1);
        tell(house, 0, 2, 0, 27, 0, 26, 0, 26, 0);
        house.handler(0, 0, 1, 2, 0);
        house.handler(0, 1, 2, 2, 1);
        house.handler(0, 1, 2, 9, 0);
        due.same("7: THROWN by three", house.run(0, 0, 0), 1);
        house.handler(0, 1, 2, 3, 0);
        due.same("7: caught by the fourth", house.run(0, 0, 0), 0);
        due.same("7: where it goes to", house.ofRun(1), 3);
        due.same("5: by the fourth", house.ofFrame(0, 3, 0), 1);
        due.same("24: without it", house.verdictBare(0), 0);
    }

    private void rangesOfHandlers() {
        for (int from = -2; from <= 26; from++) {
            FramemapHouse house = houseOf(3);
            house.method(0, false, -1, -1, -1);
            int first = from;
            boolean isRight = first >= 0 && first <= 23;
            takesOnly("11: from " + first + " to", NOT_RIGHT, 0, 24, to -> isRight && to > first && to <= 24, to -> {
                house.clear(0);
                return house.handler(0, first, to, 0, 0);
            });
            takesOnly("11: from " + first + ", target", NOT_RIGHT, 0, 23,
                    target -> isRight && target >= 0 && target <= 23, target -> {
                        house.clear(0);
                        return house.handler(0, first, 24, target, 2);
                    });
        }
        FramemapHouse house = houseOf(3);
        house.method(0, false, -1, -1, -1);
        takesFromTo("11: class", NO_SUCH, 0, 2, kind -> {
            house.clear(0);
            return house.handler(0, 0, 1, 0, kind);
        });
        takesFromTo("11: method", NO_SUCH, 0, 0, method -> house.handler(method, 0, 1, 0, 0));
    }

    /** CLASSES 1 and 2, the INTERFACE 3. */
    private static FramemapHouse houseWithInterface() {
        FramemapHouse house = houseOf(3);
        house.kind(0, true, 0);
        return house;
    }

    private void parents() {
        takesFromTo("2: parent", NOT_RIGHT, 0, 2, parent -> {
            FramemapHouse house = houseWithInterface();
            int number = house.kind(parent, false, 0);
            due.same("2: its number", number, 4);
            due.same("2: BELOW its PARENT", house.isBelow(number, parent), true);
            return number;
        });
        takesFromTo("2: parent of an INTERFACE", NOT_RIGHT, 0, 0, parent -> houseWithInterface().kind(parent, true, 0));
        FramemapHouse house = houseWithInterface();
        takesFromTo("5: one", NO_SUCH, 0, 3, kind -> house.isBelow(kind, 3) ? 1 : 0);
        takesFromTo("5: other", NO_SUCH, 0, 3, kind -> house.isBelow(3, kind) ? 1 : 0);
    }

    /** What is of one PACKAGE uses it, what is of another one does not; OBJECT is of the PACKAGE 0. */
    private void packages() {
        takesFromTo("2: PACKAGE", NOT_RIGHT, 0, 3, where -> new FramemapHouse().kind(0, false, where));
        takesFromTo("2: PACKAGE of an INTERFACE", NOT_RIGHT, 0, 3, where -> new FramemapHouse().kind(0, true, where));
        for (int one = 0; one <= 3; one++) {
            for (int other = 0; other <= 3; other++) {
                FramemapHouse house = new FramemapHouse();
                house.kind(0, false, one);
                house.kind(0, false, other);
                house.field(1, 0, 1);
                house.field(1, 0, 2);
                house.method(2, false, 11, -1, -1);
                house.method(0, false, 11, -1, -1);
                tell(house, 0, 5, 1, 20, 0, 26, 0);
                tell(house, 1, 5, 1, 20, 1, 26, 0);
                due.same("1: PACKAGE " + other + " of " + one, house.ofMethod(0, 0), one == other ? 0 : 6);
                due.same("1: PROTECTED by OBJECT of " + one, house.ofMethod(1, 0), one == 0 ? 0 : 6);
                due.same("1: PACKAGE by OBJECT of " + one, house.verdictBy(1, 1, 1), one == 0 ? 0 : 6);
            }
        }
    }

    private void accesses() {
        FramemapHouse house = houseOf(2);
        house.method(1, false, -1, -1, -1);
        takesFromTo("3: ACCESS", NOT_RIGHT, 0, 3, access -> house.field(1, 0, access));
        takesFromTo("25: ACCESS", NOT_RIGHT, 0, 3, access -> house.verdictBy(0, 0, access));
        takesFromTo("25: METHOD", NO_SUCH, 0, 0, method -> house.verdictBy(method, 0, 0));
        takesFromTo("25: FIELD", NO_SUCH, 0, 3, field -> house.verdictBy(0, field, 0));
        takesFromTo("3: CLASS", NO_SUCH, 0, 1, kind -> house.field(kind, 0, 0));
        takesFromTo("4: CLASS", NO_SUCH, 0, 1, kind -> house.method(kind, false, -1, -1, -1));
    }

    private void types() {
        for (int kinds : new int[] {1, 2, 9, 10}) {
            IntPredicate isType = type -> type == 0 || type == 1 || (type >= 10 && type < 10 + kinds);
            IntPredicate isTypeOrNone = type -> type == -1 || isType.test(type);
            takesOnly("3: TYPE", NOT_RIGHT, 0, 20, isType, type -> houseOf(kinds).field(0, type, 0));
            takesOnly("4: first", NOT_RIGHT, 0, 20, isTypeOrNone,
                    type -> houseOf(kinds).method(0, false, type, -1, -1));
            takesOnly("4: second", NOT_RIGHT, 0, 20, isTypeOrNone,
                    type -> houseOf(kinds).method(0, false, 1, type, -1));
            takesOnly("4: second alone", NOT_RIGHT, 0, 20, type -> type == -1,
                    type -> houseOf(kinds).method(0, false, -1, type, -1));
            takesOnly("4: result", NOT_RIGHT, 0, 20, isTypeOrNone,
                    type -> houseOf(kinds).method(0, false, -1, -1, type));
            takesOnly("4: result of a CONSTRUCTOR", NOT_RIGHT, 0, 20, type -> type == -1,
                    type -> houseOf(kinds).method(0, true, -1, -1, type));
            takesOnly("4: first of a CONSTRUCTOR", NOT_RIGHT, 0, 20, isTypeOrNone,
                    type -> houseOf(kinds).method(0, true, type, -1, -1));
        }
    }

    private void marks() {
        for (int kinds : new int[] {1, 2, 9, 10}) {
            FramemapHouse house = houseOf(kinds);
            house.method(0, false, -1, -1, -1);
            house.map(0, 0, 0, 0, true);
            IntPredicate isMark = mark -> (mark >= 0 && mark <= 5) || (mark >= 10 && mark < 10 + kinds)
                    || (mark >= 100 && mark <= 123);
            takesOnly("14: mark", NOT_RIGHT, 0, 124, isMark, mark -> house.word(0, 0, 5, mark));
            FramemapHouse other = houseOf(kinds);
            takesOnly("6: one", NOT_RIGHT, 0, 124, isMark, mark -> other.isFit(mark, 0) ? 1 : 0);
            takesOnly("6: other", NOT_RIGHT, 0, 124, isMark, mark -> other.isFit(0, mark) ? 1 : 0);
            FramemapHouse third = houseOf(kinds);
            takesOnly("7: one", NOT_RIGHT, 0, 124, isMark, mark -> third.common(mark, 123));
            takesOnly("7: other", NOT_RIGHT, 0, 124, isMark, mark -> third.common(123, mark));
        }
    }

    /** The least and the greatest a of each op, where there are all CLASSES, FIELDS and METHODS. */
    private static final int[][] RANGES = {{-99, 99}, {-99, 99}, {0, 0}, {0, 5}, {0, 4}, {0, 5}, {0, 5}, {0, 4},
        {0, 5}, {0, 0}, {0, 0}, {0, 0}, {0, 0}, {0, 0}, {0, 23}, {0, 23}, {0, 23}, {0, 8}, {3, 5}, {0, 2}, {0, 9},
        {0, 9}, {0, 9}, {0, 0}, {0, 0}, {0, 0}, {0, 0}, {0, 0}, {0, 0}, {0, 0}};

    /** The last CLASS is an INTERFACE, the last three METHODS are CONSTRUCTORS; one INSTRUCTION. */
    private static FramemapHouse fullHouse() {
        FramemapHouse house = houseOf(9);
        house.kind(0, true, 0);
        for (int field = 0; field < 10; field++) {
            house.field(1, 0, 0);
        }
        for (int method = 0; method < 6; method++) {
            house.method(1, method > 2, -1, -1, -1);
        }
        house.add(0, 2, 0);
        return house;
    }

    private void instructions() {
        for (int number = -1; number <= 30; number++) {
            int op = number;
            boolean isOp = op >= 0 && op < 30;
            int least = isOp ? RANGES[op][0] : 0;
            int most = isOp ? RANGES[op][1] : 0;
            IntPredicate isRight = a -> isOp && a >= least && a <= most;
            FramemapHouse house = fullHouse();
            String label = "op " + op + " with a";
            if (most - least < 50) {
                takesOnly("8: " + label, NOT_RIGHT, least, most, isRight, a -> {
                    int place = house.add(1, op, a);
                    due.same("10: the op of the last one", house.cut(1), op);
                    return place;
                });
            }
            FramemapHouse other = fullHouse();
            takesOnly("9: " + label, NOT_RIGHT, least, most, isRight, a -> other.put(0, 0, op, a));
            FramemapHouse third = fullHouse();
            takesOnly("23: " + label, NOT_RIGHT, least, most, isRight, a -> third.verdictWith(0, 0, op, a));
        }
        for (int far : new int[] {MAX, MIN, 31, 64, -30}) {
            FramemapHouse house = fullHouse();
            due.notRight(house, "8: no op", () -> house.add(0, far, 0));
            due.notRight(house, "9: no op", () -> house.put(0, 0, far, 0));
            due.notRight(house, "23: no op", () -> house.verdictWith(0, 0, far, 0));
        }
    }

    private void numbers() {
        for (int number : new int[] {-99, -98, -1, 0, 1, 98, 99}) {
            FramemapHouse house = houseOf(1);
            house.method(0, false, -1, -1, 0);
            house.method(0, false, -1, -1, 1);
            tell(house, 0, 0, number, 23, 0);
            tell(house, 1, 1, number, 24, 0);
            due.same("2: INT " + number, house.run(0, 0, 0), 0);
            due.same("2: it gives the number", house.ofRun(3), number);
            due.same("2: LONG " + number, house.run(1, 0, 0), 0);
            due.same("2: it gives the number", house.ofRun(3), number);
        }
        FramemapHouse house = houseOf(1);
        house.method(0, false, -1, -1, 0);
        for (int number : new int[] {-100, 100, MAX, MIN}) {
            due.notRight(house, "2: INT " + number, () -> house.add(0, 0, number));
            due.notRight(house, "2: LONG " + number, () -> house.add(0, 1, number));
        }
    }

    /** Each LOCAL is stored and loaded; a LONG ends with the last one. */
    private void locals() {
        for (int local = 0; local <= 5; local++) {
            FramemapHouse house = houseOf(1);
            house.method(0, false, 0, -1, 0);
            tell(house, 0, 3, 1, 6, local, 3, local, 23, 0);
            due.same("2: an INT in " + local, house.ofMethod(0, 0), 0);
            due.same("2: its MARK", house.mark(0, 2, local), 1);
            due.same("2: it is run", house.run(0, 7 + local, 0), 0);
            due.same("2: it gives it", house.ofRun(3), 7 + local);
            house.method(0, false, -1, -1, 10);
            tell(house, 1, 5, 0, 8, local, 5, local, 25, 0);
            due.same("2: a REFERENCE in " + local, house.ofMethod(1, 0), 0);
            due.same("2: its MARK", house.mark(1, 2, local), 10);
            if (local < 5) {
                house.method(0, false, 1, -1, 1);
                tell(house, 2, 4, 1, 7, local, 4, local, 24, 0);
                due.same("2: a LONG in " + local, house.ofMethod(2, 0), 0);
                due.same("2: its first MARK", house.mark(2, 2, local), 2);
                due.same("2: its second MARK", house.mark(2, 2, local + 1), 3);
                due.same("2: it is run", house.run(2, 9 + local, 0), 0);
                due.same("2: it gives it", house.ofRun(3), 9 + local);
            }
        }
    }

    private void fault(String label, int fault, int place, int... steps) {
        FramemapHouse house = houseOf(1);
        house.field(0, 1, 0);
        house.method(0, false, 0, -1, -1);
        tell(house, 0, steps);
        due.same("4: " + label, house.ofMethod(0, 0), fault);
        due.same("4: its PLACE: " + label, house.ofMethod(0, 1), place);
        due.same("4: by MAPS: " + label, house.ofMethod(0, 2), fault);
        due.same("7: a RUN: " + label, house.run(0, 0, 0), fault == 0 ? 0 : 3);
    }

    private void sixWords() {
        fault("five INTS", 0, -1, 2, 0, 2, 0, 2, 0, 2, 0, 2, 0, 26, 0);
        fault("six words", 0, -1, 2, 0, 2, 0, 2, 0, 2, 0, 2, 0, 2, 0, 26, 0);
        fault("a seventh word", 1, 6, 2, 0, 2, 0, 2, 0, 2, 0, 2, 0, 2, 0, 2, 0, 26, 0);
        fault("a LONG on four", 0, -1, 2, 0, 2, 0, 2, 0, 2, 0, 1, 0, 26, 0);
        fault("a LONG on five", 1, 5, 2, 0, 2, 0, 2, 0, 2, 0, 2, 0, 1, 0, 26, 0);
        fault("DOUBLE of five", 0, -1, 2, 0, 2, 0, 2, 0, 2, 0, 2, 0, 12, 0, 26, 0);
        fault("DOUBLE of six", 1, 6, 2, 0, 2, 0, 2, 0, 2, 0, 2, 0, 2, 0, 12, 0, 26, 0);
        fault("GET of a LONG of five", 0, -1, 2, 0, 2, 0, 2, 0, 2, 0, 5, 0, 20, 0, 26, 0);
        fault("GET of a LONG of six", 1, 6, 2, 0, 2, 0, 2, 0, 2, 0, 2, 0, 5, 0, 20, 0, 26, 0);
        fault("ADD of two INTS", 0, -1, 0, 0, 0, 0, 9, 0, 26, 0);
        fault("ADD of one", 1, 1, 0, 0, 9, 0, 26, 0);
        fault("ADD of two LONGS", 0, -1, 1, 0, 1, 0, 10, 0, 26, 0);
        fault("ADD of a LONG and a word", 1, 2, 2, 0, 1, 0, 10, 0, 26, 0);
        fault("POP of one", 0, -1, 2, 0, 11, 0, 26, 0);
        fault("POP of none", 1, 2, 2, 0, 11, 0, 11, 0, 26, 0);
    }

    private void sixWordsOfARun() {
        FramemapHouse house = houseOf(1);
        house.method(0, false, -1, -1, -1);
        tell(house, 0, 2, 0, 14, 0);
        due.same("7: WRONG ahead of the seventh word", house.run(0, 0, 0), 3);
        due.same("20: at the PLACE that pushes", house.ofRun(1), 0);
        due.same("20: twelve were done", house.ofRun(2), 12);
        house.put(0, 0, 1, 5);
        due.same("7: WRONG ahead of the fourth LONG", house.run(0, 0, 0), 3);
        due.same("20: six were done", house.ofRun(2), 6);
    }

    private void wordsOfAMap() {
        FramemapHouse house = houseOf(1);
        house.method(0, false, -1, -1, -1);
        takesFromTo("13: words", NOT_RIGHT, 0, 6, words -> house.map(0, 0, words, 0, true));
        takesFromTo("13: place", NOT_RIGHT, 0, 23, place -> house.map(0, place, 6, 0, true));
        takesFromTo("13: locks", NOT_RIGHT, 0, 9, locks -> house.map(0, 0, 0, locks, true));
        due.same("13: a MAP at each PLACE", house.ofMethod(0, 7), 24);
        for (int words = 0; words <= 6; words++) {
            int most = 5 + words;
            house.map(0, 3, words, 0, true);
            takesFromTo("14: word, of " + words, NO_SUCH, 0, most, word -> house.word(0, 3, word, 1));
            takesFromTo("14: word, of " + words, NO_SUCH, 0, most, word -> {
                due.same("14: that before", house.word(0, 3, word, 4), 1);
                return 0;
            });
        }
    }

    private void locksOfAMap() {
        for (int locks = 0; locks <= 9; locks++) {
            for (int held = 0; held <= 2; held++) {
                FramemapHouse house = houseOf(1);
                house.method(0, false, -1, -1, -1);
                for (int i = 0; i < held; i++) {
                    tell(house, 0, 2, 0, 28, 0);
                }
                tell(house, 0, 14, 2 * held + 1, 14, 2 * held + 1);
                house.map(0, 2 * held + 1, 0, locks, true);
                due.same("6: " + held + " LOCKS for " + locks, house.ofMethod(0, 2), held == locks ? 0 : 10);
            }
        }
    }

    /** A MAP can be told with nine LOCKS at most; but a suggested one has as many as there are. */
    private void nineLocksOfAMap() {
        for (int held = 9; held <= 10; held++) {
            FramemapHouse house = houseOf(1);
            house.method(0, false, -1, -1, -1);
            for (int i = 0; i < held; i++) {
                tell(house, 0, 2, 0, 28, 0);
            }
            int place = 2 * held + 1;
            tell(house, 0, 14, place, 14, place);
            due.same("17: so many LOCKS", house.ofFrame(0, place, 2), held);
            due.same("16: by ways", house.ofMethod(0, 0), 0);
            house.map(0, place, 0, 9, true);
            due.same("6: for nine LOCKS", house.ofMethod(0, 2), held == 9 ? 0 : 10);
            due.same("15: one MAP", house.suggest(0), 1);
            due.same("6: as suggested", house.ofMethod(0, 2), 0);
        }
    }

    private void whats() {
        FramemapHouse house = houseOf(1);
        house.method(0, false, -1, -1, -1);
        house.add(0, 26, 0);
        takesFromTo("16: what", NOT_RIGHT, 0, 8, what -> house.ofMethod(0, what));
        takesFromTo("17: what", NOT_RIGHT, 0, 4, what -> house.ofFrame(0, 0, what));
        takesFromTo("20: what", NOT_RIGHT, 0, 8, what -> house.ofRun(what));
        takesFromTo("21: what", NOT_RIGHT, 0, 6, what -> house.many(what));
        takesFromTo("16: method", NO_SUCH, 0, 0, method -> house.ofMethod(method, 0));
        takesFromTo("17: method", NO_SUCH, 0, 0, method -> house.ofFrame(method, 0, 0));
        takesFromTo("18: method", NO_SUCH, 0, 0, method -> house.mark(method, 0, 0));
        takesFromTo("19: method", NO_SUCH, 0, 0, method -> house.run(method, 0, 0));
        takesFromTo("22: method", NO_SUCH, 0, 0, method -> (int) house.meanWords(method));
        takesFromTo("23: method", NO_SUCH, 0, 0, method -> house.verdictWith(method, 0, 26, 0));
        takesFromTo("24: method", NO_SUCH, 0, 0, method -> house.verdictBare(method));
        takesFromTo("15: method", NO_SUCH, 0, 0, method -> house.suggest(method));
        takesFromTo("13: method", NO_SUCH, 0, 0, method -> house.map(method, 0, 0, 0, true));
        takesFromTo("14: method", NO_SUCH, 0, 0, method -> house.word(method, 0, 0, 0));
        takesFromTo("12: method", NO_SUCH, 0, 0, method -> house.clear(method));
        takesFromTo("9: method", NO_SUCH, 0, 0, method -> house.put(method, 0, 26, 0));
        takesFromTo("8: method", NO_SUCH, 0, 0, method -> house.add(method, 26, 0));
        takesFromTo("10: method", NO_SUCH, 0, 0, method -> house.cut(method));
    }

    private void wordsOfAFrame() {
        FramemapHouse house = houseOf(1);
        house.method(0, false, -1, -1, -1);
        for (int place = 0; place < 6; place++) {
            house.add(0, 2, 0);
        }
        tell(house, 0, 26, 0, 26, 0);
        for (int place = 0; place <= 6; place++) {
            int at = place;
            takesFromTo("18: word, at " + at, NO_SUCH, 0, 5 + at, word -> house.mark(0, at, word));
        }
        takesOnly("18: word, of a DEAD one", NO_SUCH, 0, 11, word -> false, word -> house.mark(0, 7, word));
        FramemapHouse broken = houseOf(1);
        broken.method(0, false, -1, -1, -1);
        tell(broken, 0, 11, 0, 26, 0);
        takesOnly("18: word, of a BROKEN one", NO_SUCH, 0, 11, word -> false, word -> broken.mark(0, 1, word));
    }

    /** CLASSES 1, 2 BELOW it, the INTERFACE 3. */
    private void givenArguments() {
        int[] types = {-1, 0, 1, 10, 11, 12, 13};
        for (int type : types) {
            FramemapHouse house = houseOf(2);
            house.kind(1, false, 0);
            house.kind(0, true, 0);
            house.method(0, false, type, -1, -1);
            house.method(0, false, 0, type, -1);
            house.method(0, false, type, -1, -1);
            tell(house, 0, 26, 0);
            tell(house, 1, 26, 0);
            IntPredicate isRight = given -> {
                switch (type) {
                    case -1: return given == 0;
                    case 0:
                    case 1: return true;
                    case 11: return given == -1 || given == 1 || given == 2;
                    case 12: return given == -1 || given == 2;
                    default: return given >= -1 && given <= 2;
                }
            };
            takesOnly("19: first of " + type, NOT_RIGHT, -1, 12, isRight, given -> house.run(0, given, 0));
            takesOnly("19: second of " + type, NOT_RIGHT, -1, 12, isRight,
                    given -> type == -1 ? house.run(1, 5, given) : house.run(1, MIN, given));
            for (int given : new int[] {-2, -1, 0, 1, 2, 3, 4, MAX, MIN}) {
                Class<?> thrown = thrownBy(() -> house.run(2, given, 0));
                due.same("19: without CODE", thrown == (isRight.test(given) ? NOT_NOW : NOT_RIGHT), true);
            }
        }
    }

    /** An object is promised to serve 512 calls. */
    private void callsOfAHouse() {
        FramemapHouse house = new FramemapHouse();
        house.method(0, false, 0, -1, 0);
        tell(house, 0, 3, 1, 23, 0);
        for (int call = 4; call <= 510; call++) {
            due.same("the call " + call, house.run(0, call, 0), 0);
        }
        due.same("20: RUNS, the call 511", house.ofRun(8), 507);
        due.same("20: what the last one gave, the call 512", house.ofRun(3), 510);
    }
}
