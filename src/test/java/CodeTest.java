/** Promises 8 to 15: how code, handlers and maps are told. */
public final class CodeTest {
    private static final int MAX = Integer.MAX_VALUE;
    private static final int MIN = Integer.MIN_VALUE;

    private final Due due = new Due();

    public static void main(String[] args) {
        CodeTest test = new CodeTest();
        test.add();
        test.put();
        test.cut();
        test.handler();
        test.clear();
        test.map();
        test.word();
        test.suggest();
        test.suggestOfDead();
        test.due.end();
    }

    /** Class 1, interface 2, one field; methods: 0 without arguments, 1 a constructor, 2 gives an INT. */
    private static FramemapHouse house() {
        FramemapHouse house = new FramemapHouse();
        house.kind(0, false, 0);
        house.kind(0, true, 0);
        house.field(1, 0, 0);
        house.method(0, false, -1, -1, -1);
        house.method(1, true, -1, -1, -1);
        house.method(1, false, 0, -1, 0);
        return house;
    }

    private interface Telling {
        int tell(int op, int a);
    }

    /** The least and the greatest a of each op. */
    private static final int[][] RANGES = {{-99, 99}, {-99, 99}, {0, 0}, {0, 5}, {0, 4}, {0, 5}, {0, 5}, {0, 4},
        {0, 5}, {0, 0}, {0, 0}, {0, 0}, {0, 0}, {0, 0}, {0, 23}, {0, 23}, {0, 23}, {0, 1}, {1, 1}, {2, 2}, {0, 0},
        {0, 0}, {0, 2}, {0, 0}, {0, 0}, {0, 0}, {0, 0}, {0, 0}, {0, 0}, {0, 0}};

    private void refuseWrong(FramemapHouse house, String name, Telling telling) {
        for (int op : new int[] {-1, 30, MAX, MIN}) {
            due.notRight(house, name + " no op " + op, () -> telling.tell(op, 0));
        }
        for (int number = 0; number < 30; number++) {
            int op = number;
            int least = RANGES[op][0];
            int most = RANGES[op][1];
            for (int a : new int[] {least - 1, most + 1, MAX, MIN}) {
                due.notRight(house, name + " op " + op + " with a " + a, () -> telling.tell(op, a));
            }
        }
        due.notRight(house, name + " INIT by a method", () -> telling.tell(18, 0));
        due.notRight(house, name + " CALL of a constructor", () -> telling.tell(19, 1));
        due.notRight(house, name + " NEW of an interface", () -> telling.tell(17, 2));
    }

    private void takeRight(String name, Telling telling) {
        for (int op = 0; op < 30; op++) {
            for (int a : RANGES[op]) {
                try {
                    telling.tell(op, a);
                } catch (RuntimeException thrown) {
                    due.same(name + " op " + op + " with a " + a + " is refused", 1, 0);
                }
            }
        }
    }

    private void add() {
        FramemapHouse house = house();
        for (int place = 0; place < 24; place++) {
            refuseSome(house, place);
            due.same("8: add(0, 2, 0)", house.add(0, 2, 0), place);
        }
        due.notRight(house, "8: no op at the end", () -> house.add(0, 30, 0));
        due.notNow(house, "8: a 25th one", () -> house.add(0, 2, 0));
        due.same("8: many(3)", house.many(3), 24);
        due.same("8: of another method", house.add(1, 26, 0), 0);
        due.same("8: many(3) of both", house.many(3), 25);
        due.same("8: the op is kept", house.put(0, 23, 26, 0), 2);
        FramemapHouse other = house();
        takeRight("8:", (op, a) -> {
            other.add(2, op, a);
            return other.cut(2);
        });
        refuseWrong(other, "8:", (op, a) -> other.add(2, op, a));
        FramemapHouse small = new FramemapHouse();
        small.method(0, true, -1, -1, -1);
        due.notRight(small, "8: GET without a field", () -> small.add(0, 20, 0));
        due.notRight(small, "8: CALL without a method", () -> small.add(0, 19, 0));
    }

    private void refuseSome(FramemapHouse house, int place) {
        if (place % 8 == 0) {
            for (int method : new int[] {-1, 3, MAX, MIN}) {
                due.noSuch(house, "8: no method " + method, () -> house.add(method, 2, 0));
                due.noSuch(house, "8: no method, no op", () -> house.add(method, 30, 0));
            }
        }
    }

    private void put() {
        FramemapHouse house = house();
        house.add(0, 0, 7);
        house.add(0, 26, 0);
        due.same("9: the op before", house.put(0, 0, 14, 1), 0);
        due.same("9: the op before", house.put(0, 0, 2, 0), 14);
        due.same("9: the mark of NULL", house.mark(0, 1, 6), 4);
        due.same("9: no more of them", house.many(3), 2);
        takeRight("9:", (op, a) -> house.put(0, 0, op, a));
        refuseWrong(house, "9:", (op, a) -> house.put(0, 0, op, a));
        for (int method : new int[] {-1, 3, MAX, MIN}) {
            due.noSuch(house, "9: no method " + method, () -> house.put(method, 0, 2, 0));
        }
        for (int place : new int[] {-1, 2, 24, MAX, MIN}) {
            due.noSuch(house, "9: nothing at " + place, () -> house.put(0, place, 2, 0));
            due.noSuch(house, "9: nothing there, and no op", () -> house.put(0, place, 30, 0));
        }
        due.noSuch(house, "9: no code", () -> house.put(1, 0, 2, 0));
        due.same("9: the last a is kept", house.verdictWith(0, 0, 26, 0), 0);
    }

    private void cut() {
        FramemapHouse house = house();
        house.add(0, 2, 0);
        house.add(0, 27, 0);
        house.handler(0, 0, 2, 1, 0);
        house.map(0, 1, 0, 0, true);
        due.same("10: cut(0)", house.cut(0), 27);
        due.same("10: one is left", house.many(3), 1);
        due.same("10: handlers stay", house.ofMethod(0, 8), 1);
        due.same("10: maps stay", house.ofMethod(0, 7), 1);
        due.same("10: nothing behind it", house.ofMethod(0, 0), 4);
        due.same("10: cut(0)", house.cut(0), 2);
        due.notNow(house, "10: cut of nothing", () -> house.cut(0));
        due.same("10: handlers stay", house.many(6), 1);
        due.same("10: maps stay", house.ofMethod(0, 7), 1);
        due.same("10: no code", house.ofMethod(0, 0), 11);
        due.same("10: added again", house.add(0, 26, 0), 0);
        for (int method : new int[] {-1, 3, MAX, MIN}) {
            due.noSuch(house, "10: no method " + method, () -> house.cut(method));
        }
    }

    private void handler() {
        FramemapHouse house = house();
        due.same("11: handler(0, 0, 24, 0, 2)", house.handler(0, 0, 24, 0, 2), 1);
        due.same("11: handler(0, 23, 24, 23, 1)", house.handler(0, 23, 24, 23, 1), 2);
        due.same("11: handler(0, 5, 6, 1, 0)", house.handler(0, 5, 6, 1, 0), 3);
        handlerRefused(house);
        due.same("11: handler(0, 5, 6, 1, 0)", house.handler(0, 5, 6, 1, 0), 4);
        handlerRefused(house);
        due.notNow(house, "11: a fifth one", () -> house.handler(0, 0, 1, 0, 0));
        due.same("11: of another method", house.handler(1, 0, 1, 0, 0), 1);
        due.same("11: many(6)", house.many(6), 5);
        due.same("11: ofMethod(0, 8)", house.ofMethod(0, 8), 4);
    }

    private void handlerRefused(FramemapHouse house) {
        for (int number : new int[] {-1, 3, MAX, MIN}) {
            due.noSuch(house, "11: no method " + number, () -> house.handler(number, 0, 1, 0, 0));
            due.noSuch(house, "11: no class " + number, () -> house.handler(0, 0, 1, 0, number));
            due.noSuch(house, "11: no class, no range", () -> house.handler(0, 1, 1, 24, number));
        }
        due.notRight(house, "11: from -1", () -> house.handler(0, -1, 1, 0, 0));
        due.notRight(house, "11: from 24", () -> house.handler(0, 24, 25, 0, 0));
        due.notRight(house, "11: to 25", () -> house.handler(0, 23, 25, 0, 0));
        due.notRight(house, "11: to not above", () -> house.handler(0, 3, 3, 0, 0));
        due.notRight(house, "11: to below", () -> house.handler(0, 3, 2, 0, 0));
        due.notRight(house, "11: target -1", () -> house.handler(0, 0, 1, -1, 0));
        due.notRight(house, "11: target 24", () -> house.handler(0, 0, 1, 24, 0));
        due.notRight(house, "11: from the least", () -> house.handler(0, MIN, 1, 0, 0));
        due.notRight(house, "11: to the greatest", () -> house.handler(0, 0, MAX, 0, 0));
    }

    private void clear() {
        FramemapHouse house = house();
        due.same("12: none", house.clear(0), 0);
        house.handler(0, 0, 1, 0, 0);
        house.handler(0, 0, 1, 0, 0);
        house.handler(1, 0, 1, 0, 0);
        due.same("12: two", house.clear(0), 2);
        due.same("12: none are left", house.ofMethod(0, 8), 0);
        due.same("12: but of the other method", house.many(6), 1);
        due.same("12: one again", house.handler(0, 0, 1, 0, 0), 1);
        for (int method : new int[] {-1, 3, MAX, MIN}) {
            due.noSuch(house, "12: no method " + method, () -> house.clear(method));
        }
    }

    private void map() {
        FramemapHouse house = house();
        due.same("13: map(0, 0, 0, 0, false)", house.map(0, 0, 0, 0, false), 1);
        due.same("13: map(0, 23, 6, 9, true)", house.map(0, 23, 6, 9, true), 2);
        house.word(0, 23, 11, 4);
        house.word(0, 23, 0, 1);
        due.same("13: instead of one", house.map(0, 23, 6, 9, true), 2);
        due.same("13: a word is NOTHING", house.word(0, 23, 11, 0), 0);
        due.same("13: a local is NOTHING", house.word(0, 23, 0, 0), 0);
        due.same("13: of another method", house.map(1, 3, 1, 1, true), 1);
        due.same("13: ofMethod(0, 7)", house.ofMethod(0, 7), 2);
        for (int method : new int[] {-1, 3, MAX, MIN}) {
            due.noSuch(house, "13: no method " + method, () -> house.map(method, 0, 0, 0, true));
            due.noSuch(house, "13: no method, no place", () -> house.map(method, 24, 7, 10, true));
        }
        for (int place : new int[] {-1, 24, MAX, MIN}) {
            due.notRight(house, "13: no place " + place, () -> house.map(0, place, 0, 0, true));
        }
        for (int words : new int[] {-1, 7, MAX, MIN}) {
            due.notRight(house, "13: words " + words, () -> house.map(0, 0, words, 0, true));
        }
        for (int locks : new int[] {-1, 10, MAX, MIN}) {
            due.notRight(house, "13: locks " + locks, () -> house.map(0, 0, 0, locks, true));
        }
    }

    private void word() {
        FramemapHouse house = house();
        house.map(0, 4, 2, 0, true);
        int[] marks = {1, 2, 3, 4, 5, 10, 12, 123};
        for (int word = 0; word < 8; word++) {
            due.same("14: NOTHING before", house.word(0, 4, word, marks[word]), 0);
        }
        for (int word = 0; word < 8; word++) {
            due.same("14: that before", house.word(0, 4, word, 0), marks[word]);
        }
        for (int word : new int[] {-1, 8, 12, MAX, MIN}) {
            due.noSuch(house, "14: no word " + word, () -> house.word(0, 4, word, 0));
            due.noSuch(house, "14: no word, no mark", () -> house.word(0, 4, word, 6));
        }
        for (int place : new int[] {-1, 0, 24, MAX, MIN}) {
            due.noSuch(house, "14: no map " + place, () -> house.word(0, place, 0, 0));
        }
        for (int method : new int[] {-1, 1, 3, MAX, MIN}) {
            due.noSuch(house, "14: no method or map " + method, () -> house.word(method, 4, 0, 0));
        }
        for (int mark : new int[] {-1, 6, 9, 13, 99, 124, MAX, MIN}) {
            due.notRight(house, "14: no mark " + mark, () -> house.word(0, 4, 7, mark));
        }
        due.same("14: unchanged", house.word(0, 4, 7, 0), 0);
    }

    private void suggest() {
        FramemapHouse house = house();
        house.add(2, 3, 1);
        house.add(2, 15, 4);
        house.add(2, 0, 1);
        house.add(2, 14, 5);
        house.add(2, 0, 2);
        house.add(2, 23, 0);
        house.map(2, 0, 0, 0, true);
        house.map(2, 20, 0, 0, true);
        due.same("15: at 4 and 5", house.suggest(2), 2);
        due.same("15: no map at 0", mapAt(house, 2, 0), 0);
        due.same("15: a map at 4", mapAt(house, 2, 4), 1);
        due.same("15: a map at 5", mapAt(house, 2, 5), 1);
        due.same("15: no map at 20", mapAt(house, 2, 20), 0);
        due.same("15: they suit", house.ofMethod(2, 2), 0);
        due.same("15: a local of it", house.word(2, 5, 0, 11), 11);
        due.same("15: a word of it", house.word(2, 5, 6, 1), 1);
        due.same("15: once more", house.suggest(2), 2);
        house.handler(2, 4, 5, 5, 0);
        due.same("15: the words are NOTHING at 5", house.mark(2, 5, 6), 0);
        due.same("15: at 4 and 5", house.suggest(2), 2);
        house.handler(2, 0, 1, 4, 0);
        due.same("15: broken at 4", house.ofFrame(2, 4, 0), 2);
        due.same("15: broken at 5", house.ofFrame(2, 5, 0), 2);
        due.same("15: not at broken ones", house.suggest(2), 0);
        due.same("15: without code", house.suggest(0), 0);
        house.map(0, 3, 0, 0, true);
        due.same("15: takes all away", house.suggest(0), 0);
        due.same("15: none are left", house.ofMethod(0, 7), 0);
        for (int method : new int[] {-1, 3, MAX, MIN}) {
            due.noSuch(house, "15: no method " + method, () -> house.suggest(method));
        }
    }

    private void suggestOfDead() {
        FramemapHouse house = house();
        house.add(0, 14, 2);
        house.add(0, 14, 3);
        house.add(0, 2, 0);
        house.add(0, 11, 0);
        house.add(0, 26, 0);
        house.add(0, 26, 0);
        due.same("15: where a dead GO goes to, and behind it", house.suggest(0), 2);
        due.same("15: a map at 2", mapAt(house, 0, 2), 1);
        due.same("15: a map at 3", mapAt(house, 0, 3), 1);
        due.same("15: no map at a dead one", mapAt(house, 0, 5), 0);
        house.handler(0, 1, 2, 4, 0);
        due.same("15: where a handler of dead ones goes to", house.suggest(0), 3);
        house.put(0, 0, 2, 0);
        house.put(0, 1, 11, 0);
        house.put(0, 3, 28, 0);
        house.put(0, 4, 2, 0);
        house.clear(0);
        house.add(0, 27, 0);
        due.same("15: no GO, and nothing behind the THROW", house.suggest(0), 0);
        FramemapHouse other = house();
        other.add(0, 14, 3);
        other.add(0, 2, 0);
        other.add(0, 11, 0);
        other.add(0, 26, 0);
        due.same("15: where the first one goes to", other.suggest(0), 1);
        due.same("15: a map at 3", mapAt(other, 0, 3), 1);
    }

    private static int mapAt(FramemapHouse house, int method, int place) {
        try {
            int before = house.word(method, place, 0, 0);
            house.word(method, place, 0, before);
            return 1;
        } catch (IndexOutOfBoundsException thrown) {
            return 0;
        }
    }
}
