/** Promises 1 to 7: a new object, and what is told and asked of classes and marks. */
public final class ClassesTest {
    private static final int MAX = Integer.MAX_VALUE;
    private static final int MIN = Integer.MIN_VALUE;

    private final Due due = new Due();

    public static void main(String[] args) {
        ClassesTest test = new ClassesTest();
        test.newObject();
        test.kind();
        test.field();
        test.method();
        test.isBelow();
        test.isFit();
        test.common();
        test.due.end();
    }

    private void newObject() {
        FramemapHouse house = new FramemapHouse();
        int[] counts = {1, 0, 0, 0, 0, 0, 0};
        for (int what = 0; what <= 6; what++) {
            due.same("1: many(" + what + ")", house.many(what), counts[what]);
        }
        for (int what = 0; what <= 8; what++) {
            due.same("1: ofRun(" + what + ")", house.ofRun(what), 0);
        }
        due.same("1: OBJECT is below itself", house.isBelow(0, 0), true);
        due.same("1: OBJECT is of the package 0", packageOf(house, 0), 0);
    }

    /** Found by a class of each package, which can use a field of the package or not. */
    private static int packageOf(FramemapHouse house, int kind) {
        int field = house.field(kind, 0, 1);
        for (int where = 0; where <= 3; where++) {
            int user = house.kind(0, false, where);
            int method = house.method(user, false, 10 + kind, -1, 0);
            house.add(method, 5, 1);
            house.add(method, 20, field);
            house.add(method, 23, 0);
            if (house.ofMethod(method, 0) == 0) {
                return where;
            }
        }
        return -1;
    }

    private void kind() {
        FramemapHouse house = new FramemapHouse();
        due.same("2: kind(0, false, 3)", house.kind(0, false, 3), 1);
        due.same("2: its package", packageOf(house, 1), 3);
        house = new FramemapHouse();
        due.same("2: kind(0, false, 0)", house.kind(0, false, 0), 1);
        due.same("2: kind(0, true, 3)", house.kind(0, true, 3), 2);
        due.same("2: kind(1, false, 1)", house.kind(1, false, 1), 3);
        for (int number = 4; number < 9; number++) {
            due.same("2: kind(3, false, 2)", house.kind(3, false, 2), number);
        }
        kindRefused(house);
        due.same("2: kind(8, false, 0)", house.kind(8, false, 0), 9);
        kindRefused(house);
        FramemapHouse full = house;
        due.notNow(full, "2: an eleventh class", () -> full.kind(0, false, 0));
        due.notNow(full, "2: an eleventh class", () -> full.kind(0, true, 0));
        due.same("2: many(0)", house.many(0), 10);
        due.same("2: below all its parents", house.isBelow(9, 1), true);
        due.same("2: the interface is below OBJECT", house.isBelow(2, 0), true);
    }

    private void kindRefused(FramemapHouse house) {
        for (int parent : new int[] {-1, 10, MAX, MIN}) {
            due.notRight(house, "2: no parent " + parent, () -> house.kind(parent, false, 0));
        }
        due.notRight(house, "2: a class below an interface", () -> house.kind(2, false, 0));
        due.notRight(house, "2: an interface below an interface", () -> house.kind(2, true, 0));
        due.notRight(house, "2: an interface below a class", () -> house.kind(1, true, 0));
        for (int where : new int[] {-1, 4, MAX, MIN}) {
            due.notRight(house, "2: no package " + where, () -> house.kind(0, false, where));
        }
    }

    private void field() {
        FramemapHouse house = new FramemapHouse();
        house.kind(0, false, 0);
        house.kind(0, true, 0);
        due.same("3: field(0, 0, 0)", house.field(0, 0, 0), 0);
        due.same("3: field(1, 1, 3)", house.field(1, 1, 3), 1);
        due.same("3: field(1, 12, 1)", house.field(1, 12, 1), 2);
        for (int number = 3; number < 9; number++) {
            due.same("3: field(1, 10, 2)", house.field(1, 10, 2), number);
        }
        fieldRefused(house);
        due.same("3: field(1, 11, 2)", house.field(1, 11, 2), 9);
        fieldRefused(house);
        due.notNow(house, "3: an eleventh field", () -> house.field(0, 0, 0));
        due.same("3: many(1)", house.many(1), 10);
        FramemapHouse other = new FramemapHouse();
        due.same("3: field(0, 1, 0)", other.field(0, 1, 0), 0);
        other.method(0, false, -1, -1, 1);
        other.add(0, 5, 0);
        other.add(0, 20, 0);
        other.add(0, 24, 0);
        due.same("3: it is a LONG", other.ofMethod(0, 0), 0);
        due.same("3: two words", other.ofFrame(0, 2, 1), 2);
    }

    private void fieldRefused(FramemapHouse house) {
        for (int kind : new int[] {-1, 3, MAX, MIN}) {
            due.noSuch(house, "3: no class " + kind, () -> house.field(kind, 0, 0));
            due.noSuch(house, "3: no class, and no type or access", () -> house.field(kind, 2, 4));
        }
        due.notRight(house, "3: of an interface", () -> house.field(2, 0, 0));
        for (int type : new int[] {-1, 2, 5, 9, 13, 100, MAX, MIN}) {
            due.notRight(house, "3: no type " + type, () -> house.field(0, type, 0));
        }
        for (int access : new int[] {-1, 4, MAX, MIN}) {
            due.notRight(house, "3: no access " + access, () -> house.field(0, 0, access));
        }
    }

    private void method() {
        FramemapHouse house = new FramemapHouse();
        house.kind(0, false, 0);
        house.kind(0, true, 0);
        due.same("4: without arguments", house.method(0, false, -1, -1, -1), 0);
        due.same("4: a constructor", house.method(1, true, 0, 1, -1), 1);
        due.same("4: two longs", house.method(1, false, 1, 1, 12), 2);
        due.same("4: two references", house.method(1, false, 10, 12, 1), 3);
        due.same("4: one argument", house.method(0, true, 11, -1, -1), 4);
        methodRefused(house);
        due.same("4: the sixth", house.method(0, false, -1, -1, 0), 5);
        methodRefused(house);
        due.notNow(house, "4: a seventh method", () -> house.method(0, false, -1, -1, -1));
        due.same("4: many(2)", house.many(2), 6);
        due.same("4: without code", house.many(3), 0);
        due.same("4: verdict without code", house.ofMethod(5, 0), 11);
        int[] begins = {5, 1, 2, 3, 0, 0};
        beginsWith(house, 1, begins);
        beginsWith(house, 2, new int[] {11, 2, 3, 2, 3, 0});
        beginsWith(house, 3, new int[] {11, 10, 12, 0, 0, 0});
        beginsWith(house, 4, new int[] {5, 11, 0, 0, 0, 0});
        beginsWith(house, 5, new int[] {10, 0, 0, 0, 0, 0});
    }

    private void beginsWith(FramemapHouse house, int method, int[] marks) {
        house.add(method, 26, 0);
        for (int local = 0; local < 6; local++) {
            due.same("4: method " + method + " begins, local " + local, house.mark(method, 0, local), marks[local]);
        }
        due.same("4: no words", house.ofFrame(method, 0, 1), 0);
        due.same("4: no locks", house.ofFrame(method, 0, 2), 0);
        due.same("4: done but in constructors", house.ofFrame(method, 0, 3), marks[0] == 5 ? 0 : 1);
    }

    private void methodRefused(FramemapHouse house) {
        for (int kind : new int[] {-1, 3, MAX, MIN}) {
            due.noSuch(house, "4: no class " + kind, () -> house.method(kind, false, -1, -1, -1));
            due.noSuch(house, "4: no class, and no type", () -> house.method(kind, true, 3, 3, 3));
        }
        due.notRight(house, "4: of an interface", () -> house.method(2, false, -1, -1, -1));
        for (int type : new int[] {-2, 2, 9, 13, MAX, MIN}) {
            due.notRight(house, "4: no first " + type, () -> house.method(0, false, type, -1, -1));
            due.notRight(house, "4: no second " + type, () -> house.method(0, false, 0, type, -1));
            due.notRight(house, "4: no result " + type, () -> house.method(0, false, -1, -1, type));
        }
        due.notRight(house, "4: a second one alone", () -> house.method(0, false, -1, 0, -1));
        due.notRight(house, "4: a result of a constructor", () -> house.method(0, true, -1, -1, 0));
    }

    private static FramemapHouse family() {
        FramemapHouse house = new FramemapHouse();
        house.kind(0, false, 0);
        house.kind(1, false, 0);
        house.kind(1, false, 0);
        house.kind(3, false, 0);
        house.kind(0, true, 0);
        house.kind(0, false, 0);
        return house;
    }

    private void isBelow() {
        FramemapHouse house = family();
        int[][] above = {{0}, {0, 1}, {0, 1, 2}, {0, 1, 3}, {0, 1, 3, 4}, {0, 5}, {0, 6}};
        for (int one = 0; one < 7; one++) {
            for (int other = 0; other < 7; other++) {
                boolean isAbove = false;
                for (int kind : above[one]) {
                    isAbove |= kind == other;
                }
                due.same("5: isBelow(" + one + ", " + other + ")", house.isBelow(one, other), isAbove);
            }
        }
        for (int kind : new int[] {-1, 7, 10, 32, MAX, MIN}) {
            due.noSuch(house, "5: isBelow(" + kind + ", 0)", () -> house.isBelow(kind, 0) ? 1 : 0);
            due.noSuch(house, "5: isBelow(0, " + kind + ")", () -> house.isBelow(0, kind) ? 1 : 0);
        }
    }

    private void isFit() {
        FramemapHouse house = family();
        int[] marks = {0, 1, 2, 3, 4, 5, 10, 11, 12, 13, 14, 15, 16, 100, 123};
        for (int one : marks) {
            for (int other : marks) {
                boolean isRight = one == other || other == 0;
                if (other >= 10 && other < 100) {
                    isRight |= one == 4;
                    isRight |= one >= 10 && one < 100 && (other == 15 || house.isBelow(one - 10, other - 10));
                }
                due.same("6: isFit(" + one + ", " + other + ")", house.isFit(one, other), isRight);
            }
        }
        due.same("6: a class for its parent", house.isFit(14, 11), true);
        due.same("6: a parent for its class", house.isFit(11, 14), false);
        due.same("6: a class for an interface", house.isFit(10, 15), true);
        due.same("6: an interface for OBJECT", house.isFit(15, 10), true);
        due.same("6: an interface for a class", house.isFit(15, 16), false);
        for (int mark : new int[] {-1, 6, 9, 17, 19, 20, 99, 124, MAX, MIN}) {
            due.notRight(house, "6: isFit(" + mark + ", 0)", () -> house.isFit(mark, 0) ? 1 : 0);
            due.notRight(house, "6: isFit(0, " + mark + ")", () -> house.isFit(0, mark) ? 1 : 0);
        }
    }

    private void common() {
        FramemapHouse house = family();
        int[] marks = {0, 1, 2, 3, 4, 5, 10, 11, 12, 13, 14, 15, 16, 100, 123};
        for (int mark : marks) {
            due.same("7: of the same", house.common(mark, mark), mark);
            due.same("7: with NOTHING", house.common(mark, 0), 0);
        }
        bothWays(house, 4, 13, 13);
        bothWays(house, 4, 15, 15);
        bothWays(house, 4, 100, 0);
        bothWays(house, 4, 5, 0);
        bothWays(house, 12, 13, 11);
        bothWays(house, 12, 14, 11);
        bothWays(house, 14, 13, 13);
        bothWays(house, 14, 16, 10);
        bothWays(house, 14, 15, 10);
        bothWays(house, 10, 15, 10);
        bothWays(house, 14, 100, 0);
        bothWays(house, 100, 123, 0);
        bothWays(house, 1, 2, 0);
        bothWays(house, 1, 13, 0);
        for (int mark : new int[] {-1, 6, 9, 17, 99, 124, MAX, MIN}) {
            due.notRight(house, "7: common(" + mark + ", 0)", () -> house.common(mark, 0));
            due.notRight(house, "7: common(0, " + mark + ")", () -> house.common(0, mark));
        }
    }

    private void bothWays(FramemapHouse house, int one, int other, int shared) {
        due.same("7: common(" + one + ", " + other + ")", house.common(one, other), shared);
        due.same("7: common(" + other + ", " + one + ")", house.common(other, one), shared);
    }
}
