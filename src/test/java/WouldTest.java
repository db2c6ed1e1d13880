import java.math.BigInteger;
import java.util.ArrayList;
import java.util.Collections;
import java.util.List;

/** Promises 23 to 26: what would be, and the digest. */
public final class WouldTest {
    private static final int MAX = Integer.MAX_VALUE;
    private static final int MIN = Integer.MIN_VALUE;

    private final Due due = new Due();

    public static void main(String[] args) {
        WouldTest test = new WouldTest();
        test.verdictWith();
        test.verdictBare();
        test.verdictBy();
        test.digestOfNew();
        test.digest();
        test.digestWrapsAround();
        test.due.end();
    }

    private static FramemapHouse house(int result, int... steps) {
        FramemapHouse house = new FramemapHouse();
        house.kind(0, false, 0);
        house.kind(1, false, 1);
        house.field(1, 0, 2);
        house.method(2, false, 11, -1, result);
        house.method(0, true, -1, -1, -1);
        for (int i = 0; i < steps.length; i += 2) {
            house.add(0, steps[i], steps[i + 1]);
        }
        return house;
    }

    private void same(FramemapHouse house, String call, java.util.function.IntSupplier made, int verdict) {
        long before = house.digest();
        due.same(call, made.getAsInt(), verdict);
        due.same(call + " changes nothing", house.digest(), before);
    }

    private void verdictWith() {
        FramemapHouse house = house(0, 0, 5, 23, 0);
        same(house, "23: as it is", () -> house.verdictWith(0, 0, 0, 5), 0);
        same(house, "23: with NULL", () -> house.verdictWith(0, 0, 2, 0), 2);
        same(house, "23: with LOAD of NOTHING", () -> house.verdictWith(0, 0, 3, 5), 3);
        same(house, "23: with GO to itself", () -> house.verdictWith(0, 0, 14, 0), 0);
        same(house, "23: with GO to nothing", () -> house.verdictWith(0, 0, 14, 2), 4);
        same(house, "23: with POP", () -> house.verdictWith(0, 1, 11, 0), 4);
        due.same("23: it is as it was", house.ofMethod(0, 0), 0);
        due.same("23: the op is as it was", house.put(0, 0, 0, 5), 0);
        due.same("23: so is its a", house.run(0, -1, 0), 0);
        due.same("23: so is its a", house.ofRun(3), 5);
        for (int method : new int[] {-1, 2, MAX, MIN}) {
            due.noSuch(house, "23: no method", () -> house.verdictWith(method, 0, 30, 0));
        }
        for (int place : new int[] {-1, 2, 24, MAX, MIN}) {
            due.noSuch(house, "23: nothing at " + place, () -> house.verdictWith(0, place, 30, 0));
        }
        due.noSuch(house, "23: no code", () -> house.verdictWith(1, 0, 2, 0));
        for (int op : new int[] {-1, 30, MAX, MIN}) {
            due.notRight(house, "23: no op " + op, () -> house.verdictWith(0, 0, op, 0));
        }
        int[][] wrong = {{0, 100}, {0, -100}, {1, 100}, {2, 1}, {3, 6}, {4, 5}, {5, -1}, {6, 6}, {7, 5}, {8, 6},
            {14, 24}, {15, -1}, {17, 3}, {18, 0}, {19, 1}, {20, 1}, {21, -1}, {22, 3}, {29, 1}};
        for (int[] step : wrong) {
            due.notRight(house, "23: op " + step[0] + " with a " + step[1],
                    () -> house.verdictWith(0, 0, step[0], step[1]));
        }
    }

    private void verdictBare() {
        FramemapHouse house = house(-1, 2, 0, 28, 0, 2, 0, 27, 0);
        same(house, "24: THROW with a LOCK", () -> house.verdictBare(0), 9);
        house.handler(0, 3, 4, 0, 0);
        due.same("24: with its handler", house.ofMethod(0, 0), 5);
        same(house, "24: without it", () -> house.verdictBare(0), 9);
        house.put(0, 1, 11, 0);
        house.put(0, 3, 11, 0);
        house.add(0, 26, 0);
        due.same("24: with its handler", house.ofMethod(0, 0), 5);
        same(house, "24: without it", () -> house.verdictBare(0), 0);
        due.same("24: the handler stays", house.ofMethod(0, 8), 1);
        same(house, "24: without code", () -> house.verdictBare(1), 11);
        for (int method : new int[] {-1, 2, MAX, MIN}) {
            due.noSuch(house, "24: no method", () -> house.verdictBare(method));
        }
    }

    private void verdictBy() {
        FramemapHouse house = house(0, 5, 1, 20, 0, 23, 0);
        due.same("25: PROTECTED, by the parent", house.ofMethod(0, 0), 6);
        same(house, "25: OPEN", () -> house.verdictBy(0, 0, 0), 0);
        same(house, "25: PACKAGE", () -> house.verdictBy(0, 0, 1), 6);
        same(house, "25: PROTECTED", () -> house.verdictBy(0, 0, 2), 6);
        same(house, "25: OWN", () -> house.verdictBy(0, 0, 3), 6);
        house.put(0, 0, 5, 0);
        same(house, "25: PROTECTED, by the own class", () -> house.verdictBy(0, 0, 2), 0);
        same(house, "25: OWN", () -> house.verdictBy(0, 0, 3), 6);
        due.same("25: it is as it was", house.ofMethod(0, 0), 0);
        same(house, "25: without code", () -> house.verdictBy(1, 0, 3), 11);
        for (int number : new int[] {-1, 2, MAX, MIN}) {
            due.noSuch(house, "25: no method", () -> house.verdictBy(number, 0, 4));
            due.noSuch(house, "25: no field", () -> house.verdictBy(0, number, 4));
        }
        due.noSuch(house, "25: no second field", () -> house.verdictBy(0, 1, 0));
        for (int access : new int[] {-1, 4, MAX, MIN}) {
            due.notRight(house, "25: no access " + access, () -> house.verdictBy(0, 0, access));
        }
    }

    private void digestOfNew() {
        long sum = 58139;
        int[] numbers = {1, 0, 0, 0, 0, 0, 0, 0, 0, 0, 0, 0, 0, 0, 0, 0};
        for (int number : numbers) {
            sum = sum * 31 + number;
        }
        due.same("26: of a new one", new FramemapHouse().digest(), sum);
    }

    private static FramemapHouse houseToSum() {
        FramemapHouse house = house(0, 5, 1, 20, 0, 23, 0, 11, 0, 26, 0);
        house.handler(0, 0, 1, 3, 0);
        house.add(1, 5, 0);
        house.add(1, 18, 1);
        house.add(1, 26, 0);
        house.suggest(0);
        return house;
    }

    private void digest() {
        FramemapHouse house = houseToSum();
        due.same("26: ahead of a run", house.digest(), summed(house));
        house.run(0, 1, 0);
        due.same("26: behind a run", house.digest(), summed(house));
        FramemapHouse broken = houseToSum();
        broken.put(0, 0, 11, 0);
        due.same("26: with a broken one", broken.digest(), summed(broken));
        due.same("26: once more", broken.digest(), broken.digest());
    }

    /** As numbers without an end, of which the last 64 bits count, the first of them as a sign. */
    private void digestWrapsAround() {
        BigInteger sum = BigInteger.valueOf(58139);
        sum = sum.multiply(BigInteger.valueOf(31)).add(BigInteger.ONE);
        for (int i = 0; i < 15; i++) {
            sum = sum.multiply(BigInteger.valueOf(31));
        }
        due.same("26: it goes beyond 64 bits", sum.bitLength() > 64, true);
        due.same("26: of a new one", new FramemapHouse().digest(), sum.longValue());
        int positive = 0;
        int negative = 0;
        FramemapHouse house = new FramemapHouse();
        house.method(0, false, -1, -1, -1);
        for (int place = 0; place < 24; place++) {
            house.add(0, 26, 0);
            long digest = house.digest();
            due.same("26: of " + place, digest, summedWithoutEnd(place + 1));
            positive += digest > 0 ? 1 : 0;
            negative += digest < 0 ? 1 : 0;
        }
        due.same("26: some are above 0", positive > 0, true);
        due.same("26: some are below 0", negative > 0, true);
    }

    /** Of a house with one CLASS and one METHOD that gives nothing at each of its PLACES. */
    private static long summedWithoutEnd(int places) {
        ArrayList<Integer> numbers = new ArrayList<>(List.of(1, 0, 1, places, 1,
                places == 1 ? 1 : 0, 0));
        numbers.addAll(List.of(0, -1, places == 1 ? 0 : 10, places == 1 ? -1 : 1, places - 1, 0, 1, 0, 0));
        numbers.add(0);
        numbers.addAll(List.of(1, 0, 0, 1, 0, 10, 0, 0, 0, 0, 0));
        for (int place = 1; place < places; place++) {
            numbers.addAll(List.of(0, -1, -1, -1, 0));
        }
        numbers.addAll(Collections.nCopies(9, 0));
        BigInteger sum = BigInteger.valueOf(58139);
        for (int number : numbers) {
            sum = sum.multiply(BigInteger.valueOf(31)).add(BigInteger.valueOf(number));
        }
        return sum.longValue();
    }

    private static long summed(FramemapHouse house) {
        long sum = 58139;
        for (int what = 0; what <= 6; what++) {
            sum = sum * 31 + house.many(what);
        }
        for (int method = 0; method < house.many(2); method++) {
            for (int what = 0; what <= 8; what++) {
                sum = sum * 31 + house.ofMethod(method, what);
            }
            sum = sum * 31 + house.verdictBare(method);
            int places = method == 0 ? 5 : 3;
            for (int place = 0; place < places; place++) {
                for (int what = 0; what <= 4; what++) {
                    sum = sum * 31 + house.ofFrame(method, place, what);
                }
                int words = house.ofFrame(method, place, 0) == 1 ? 6 + house.ofFrame(method, place, 1) : 0;
                for (int word = 0; word < words; word++) {
                    sum = sum * 31 + house.mark(method, place, word);
                }
            }
        }
        for (int what = 0; what <= 8; what++) {
            sum = sum * 31 + house.ofRun(what);
        }
        return sum;
    }
}
