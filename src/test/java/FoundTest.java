/** Promises 16, 17, 18, 21 and 22: what is found by ways and by maps. */
public final class FoundTest {
    private static final int MAX = Integer.MAX_VALUE;
    private static final int MIN = Integer.MIN_VALUE;

    private final Due due = new Due();
    private FramemapHouse house;

    public static void main(String[] args) {
        FoundTest test = new FoundTest();
        test.refusals();
        test.straight();
        test.rounds();
        test.doesNotMeet();
        test.brokenWithoutFault();
        test.handlerPassesOn();
        test.handlerToItself();
        test.meetsWordByWord();
        test.byMapsSuits();
        test.byMapsNeedsMaps();
        test.byMapsHandlers();
        test.byMapsConstructor();
        test.many();
        test.meanWords();
        test.due.end();
    }

    /** Classes 1, 2 and 3 below 1, interface 4; method 0 of class 1 with an INT and a REFERENCE to 1. */
    private void build(int... steps) {
        house = new FramemapHouse();
        house.kind(0, false, 0);
        house.kind(1, false, 0);
        house.kind(1, false, 0);
        house.kind(0, true, 0);
        house.method(1, false, 0, 11, -1);
        house.method(1, true, -1, -1, -1);
        tell(0, steps);
    }

    private void tell(int method, int... steps) {
        for (int i = 0; i < steps.length; i += 2) {
            house.add(method, steps[i], steps[i + 1]);
        }
    }

    private void facts(String label, int... facts) {
        for (int what = 0; what < facts.length; what++) {
            due.same("16: " + label + ": ofMethod(0, " + what + ")", house.ofMethod(0, what), facts[what]);
        }
    }

    private void maps(String label, int verdict, int place) {
        due.same("16: " + label + ": by maps", house.ofMethod(0, 2), verdict);
        due.same("16: " + label + ": place by maps", house.ofMethod(0, 3), place);
    }

    private void refusals() {
        build(2, 0, 14, 3, 2, 0, 26, 0);
        for (int method : new int[] {-1, 2, MAX, MIN}) {
            due.noSuch(house, "16: no method", () -> house.ofMethod(method, 9));
            due.noSuch(house, "17: no method", () -> house.ofFrame(method, 0, 5));
            due.noSuch(house, "18: no method", () -> house.mark(method, 0, 0));
            due.noSuch(house, "22: no method", () -> (int) house.meanWords(method));
        }
        for (int what : new int[] {-1, 9, MAX, MIN}) {
            due.notRight(house, "16: no what " + what, () -> house.ofMethod(0, what));
        }
        for (int what : new int[] {-1, 5, MAX, MIN}) {
            due.notRight(house, "17: no what " + what, () -> house.ofFrame(0, 0, what));
        }
        for (int what : new int[] {-1, 7, MAX, MIN}) {
            due.notRight(house, "21: no what " + what, () -> house.many(what));
        }
        for (int place : new int[] {-1, 4, 24, MAX, MIN}) {
            due.noSuch(house, "17: nothing at " + place, () -> house.ofFrame(0, place, 5));
            due.noSuch(house, "18: nothing at " + place, () -> house.mark(0, place, 0));
        }
        for (int word : new int[] {-1, 7, 12, MAX, MIN}) {
            due.noSuch(house, "18: no word " + word, () -> house.mark(0, 3, word));
        }
        due.same("18: the last word", house.mark(0, 3, 6), 4);
        due.noSuch(house, "18: of a dead one", () -> house.mark(0, 2, 0));
        due.noSuch(house, "18: no word at the first", () -> house.mark(0, 0, 6));
        for (int what = 0; what <= 4; what++) {
            due.same("17: of a dead one", house.ofFrame(0, 2, what), what == 0 || what == 4 ? 0 : -1);
        }
    }

    private void straight() {
        build();
        facts("without code", 11, -1, 11, -1, 0, 0, 0, 0, 0);
        build(26, 0);
        facts("one", 0, -1, 0, -1, 0, 0, 1, 0, 0);
        build(2, 0, 11, 0, 26, 0);
        facts("a line", 0, -1, 0, -1, 0, 0, 2, 0, 0);
        build(26, 0, 2, 0, 11, 0);
        facts("dead ones", 0, -1, 10, 1, 2, 0, 1, 0, 0);
        house.map(0, 7, 0, 0, true);
        house.handler(0, 3, 4, 0, 0);
        facts("a map and a handler", 0, -1, 10, 1, 2, 0, 1, 1, 1);
    }

    private void rounds() {
        build(5, 2, 8, 3, 2, 0, 8, 4, 5, 3, 8, 4, 5, 0, 8, 3, 14, 4);
        facts("nothing new", 0, -1, 10, 8, 0, 0, 3);
        build(2, 0, 8, 3, 2, 0, 8, 4, 5, 3, 8, 4, 5, 0, 8, 3, 14, 4);
        facts("two of the rounds back change", 0, -1, 10, 8, 0, 0, 4);
        due.same("18: NULL and a REFERENCE", house.mark(0, 4, 3), 11);
        due.same("18: that comes round", house.mark(0, 6, 4), 11);
        due.same("18: and round", house.mark(0, 4, 4), 11);
        build(14, 2, 26, 0, 14, 1);
        facts("a way back to a dead one", 0, -1, 10, 0, 0, 0, 2);
        build(14, 3, 2, 0, 26, 0, 14, 1);
        facts("a way back to a dead one that goes on", 0, -1, 10, 0, 0, 0, 3);
    }

    private void doesNotMeet() {
        build(3, 1, 15, 3, 2, 0, 26, 0);
        facts("as many words", 5, 3, 10, 1, 0, 1, 2);
        due.same("17: 5 at the place", house.ofFrame(0, 3, 4), 5);
        due.same("17: broken", house.ofFrame(0, 3, 0), 2);
        due.noSuch(house, "18: of a broken one", () -> house.mark(0, 3, 0));
        house.put(0, 2, 11, 0);
        facts("broken otherwise", 1, 2);
        due.same("17: no 5 any more", house.ofFrame(0, 3, 4), 0);
        build(3, 1, 15, 4, 5, 0, 28, 0, 14, 5, 26, 0);
        facts("as many locks", 5, 4, 10, 1, 0, 2);
        due.same("17: the next is broken without fault", house.ofFrame(0, 5, 4), 0);
        build(2, 0, 14, 0);
        facts("where it begins", 5, 0, 10, 1, 0, 2, 3);
        build(14, 2, 14, 8, 2, 0, 2, 0, 16, 6, 14, 8, 11, 0, 14, 1, 26, 0);
        facts("a round for that alone", 5, 8, 10, 0, 0, 1, 3);
        build(14, 2, 14, 9, 2, 0, 11, 0, 2, 0, 16, 9, 0, 1, 11, 0, 14, 1, 26, 0);
        facts("words that are gone do not meet", 0, -1, 10, 0, 0, 0, 2);
        due.same("15: where GO goes to", house.suggest(0), 3);
        facts("words that are gone are not asked", 0, -1, 0, -1, 0, 0, 2);
    }

    private void brokenWithoutFault() {
        build(11, 0, 14, 0);
        facts("all are broken", 1, 0, 1, 0, 0, 2, 2);
        due.same("17: no fault", house.ofFrame(0, 0, 4), 0);
        build(26, 0);
        tell(1, 16, 1, 14, 0);
        due.same("16: broken, of a CONSTRUCTOR", house.ofMethod(1, 0), 1);
        due.same("16: at the least place", house.ofMethod(1, 1), 0);
        build(2, 0, 11, 0, 11, 0, 14, 1);
        facts("what is broken comes round", 1, 1, 1, 2, 0, 3, 3);
        build(14, 2, 26, 0, 11, 0, 14, 2);
        facts("at the least broken place", 1, 2, 10, 0, 1, 2);
        build(3, 1, 15, 3, 14, 4, 11, 0, 2, 0, 26, 0);
        facts("what is broken breaks, and that is no 5", 1, 3, 10, 1, 0, 2);
        due.same("17: broken by what is broken", house.ofFrame(0, 4, 0), 2);
        due.same("17: without fault", house.ofFrame(0, 4, 4), 0);
    }

    private void handlerPassesOn() {
        build(2, 0, 6, 1, 26, 0, 11, 0, 26, 0);
        house.handler(0, 1, 2, 3, 2);
        facts("STORE of NULL as an INT", 2, 1);
        due.same("18: ahead of the INSTRUCTION", house.mark(0, 3, 1), 1);
        due.same("18: the word that it has", house.mark(0, 3, 6), 12);
        due.same("17: one word", house.ofFrame(0, 3, 1), 1);
        due.same("16: none is dead", house.ofMethod(0, 4), 0);
        build(2, 0, 8, 1, 26, 0, 11, 0, 26, 0);
        house.handler(0, 1, 2, 3, 4);
        due.same("18: ahead of the STORE", house.mark(0, 3, 1), 1);
        due.same("18: an interface", house.mark(0, 3, 6), 14);
        house.clear(0);
        house.handler(0, 1, 3, 3, 0);
        due.same("18: also behind the STORE", house.mark(0, 3, 1), 0);
        house.clear(0);
        house.handler(0, 3, 24, 4, 0);
        due.same("17: not of dead ones", house.ofFrame(0, 4, 0), 0);
        house.handler(0, 0, 24, 5, 0);
        facts("a TARGET without INSTRUCTION is nothing", 0, -1);
        build(11, 0, 26, 0, 26, 0);
        house.handler(0, 0, 1, 2, 0);
        due.same("17: ahead of what breaks", house.ofFrame(0, 2, 0), 1);
        house.handler(0, 1, 2, 2, 0);
        due.same("17: broken by a broken one", house.ofFrame(0, 2, 0), 2);
        due.same("17: that is no fault", house.ofFrame(0, 2, 4), 0);
        build(5, 0, 28, 0, 2, 0, 27, 0, 5, 0, 29, 0, 26, 0);
        house.handler(0, 2, 4, 4, 0);
        facts("the same LOCKS", 0, -1);
        due.same("17: a LOCK", house.ofFrame(0, 4, 2), 1);
    }

    private void handlerToItself() {
        build(11, 0, 26, 0);
        house.handler(0, 0, 1, 0, 0);
        facts("a handler to its own place", 5, 0, 1, 0, 0, 2, 2);
        build(2, 0, 8, 3, 5, 2, 27, 0);
        house.handler(0, 3, 4, 3, 2);
        facts("a handler to a THROW", 0, -1);
        due.same("18: what meets there", house.mark(0, 3, 6), 11);
    }

    private void meetsWordByWord() {
        build(2, 0, 3, 1, 15, 5, 11, 0, 5, 2, 8, 2, 26, 0);
        due.same("18: NULL and a REFERENCE", house.mark(0, 5, 6), 11);
        due.same("18: a local as it is", house.mark(0, 5, 2), 11);
        build(2, 0, 22, 2, 3, 1, 15, 7, 11, 0, 2, 0, 22, 3, 26, 0);
        due.same("18: two children", house.mark(0, 7, 6), 11);
        build(2, 0, 22, 2, 3, 1, 15, 7, 11, 0, 2, 0, 22, 4, 26, 0);
        due.same("18: with an interface", house.mark(0, 7, 6), 10);
        build(0, 0, 3, 1, 15, 5, 11, 0, 2, 0, 26, 0);
        due.same("18: an INT and NULL", house.mark(0, 5, 6), 0);
        build(26, 0);
        tell(1, 5, 0, 12, 0, 18, 1, 27, 0);
        house.handler(1, 0, 3, 3, 0);
        due.same("17: DONE, if both are", house.ofFrame(1, 3, 3), 0);
        due.same("18: HALF and a REFERENCE", house.mark(1, 3, 0), 0);
        house.clear(1);
        due.same("17: DONE", house.ofFrame(1, 3, 3), 1);
        due.same("18: the REFERENCE", house.mark(1, 3, 0), 11);
    }

    private void mapAt(int place, int words, int... marks) {
        house.map(0, place, words, 0, true);
        for (int word = 0; word < marks.length; word++) {
            house.word(0, place, word, marks[word]);
        }
    }

    private void byMapsSuits() {
        build(2, 0, 26, 0);
        maps("no map", 0, -1);
        mapAt(1, 1, 11, 1, 11, 0, 0, 0, 4);
        maps("just as it comes", 0, -1);
        mapAt(1, 1, 10, 0, 14, 0, 0, 0, 12);
        maps("each is fit", 0, -1);
        mapAt(1, 1, 12);
        maps("a local is not fit", 10, 1);
        mapAt(1, 1, 0, 0, 0, 0, 0, 0, 1);
        maps("a word is not fit", 10, 1);
        mapAt(1, 0);
        maps("too few words", 10, 1);
        mapAt(1, 2);
        maps("too many words", 10, 1);
        house.map(0, 1, 1, 1, true);
        maps("other locks", 10, 1);
        house.map(0, 1, 1, 0, false);
        maps("DONE is not asked", 0, -1);
        mapAt(0, 0, 11, 2);
        maps("at 0, as it begins", 10, 0);
        mapAt(0, 0, 11, 1, 11);
        maps("at 0", 0, -1);
        house.put(0, 0, 3, 1);
        maps("from there on what the map says", 0, -1);
        mapAt(0, 0, 11);
        maps("the map says that it is NOTHING", 3, 0);
        mapAt(7, 3, 3);
        maps("the first fault ends it", 3, 0);
    }

    private void byMapsNeedsMaps() {
        build(14, 2, 26, 0, 26, 0);
        maps("GO without a map", 10, 0);
        mapAt(2, 0);
        maps("nothing comes to 1", 10, 1);
        mapAt(1, 6);
        maps("with a map for what is dead", 0, -1);
        mapAt(2, 1);
        maps("GO does not suit", 10, 0);
        build(0, 0, 15, 2, 26, 0);
        maps("GO if, without a map", 10, 1);
        mapAt(2, 0);
        maps("GO if", 0, -1);
        mapAt(2, 1);
        maps("GO if takes the INT", 10, 1);
        build(0, 0, 16, 2, 26, 0);
        maps("the faults of 4 ahead of 10", 2, 1);
        build(14, 5, 26, 0);
        mapAt(5, 0);
        maps("a map without INSTRUCTION", 4, 0);
        build(3, 1, 15, 3, 28, 0, 26, 0);
        due.same("15: none at a broken one", house.suggest(0), 0);
        maps("without a map", 10, 1);
        mapAt(3, 0);
        maps("a fault of 4", 1, 2);
    }

    private void byMapsHandlers() {
        build(2, 0, 6, 1, 26, 0, 11, 0, 26, 0);
        house.handler(0, 0, 1, 3, 2);
        maps("a HANDLER without a map", 10, 0);
        mapAt(3, 1, 11, 1, 11, 0, 0, 0, 12);
        maps("the HANDLER suits, the fault behind it", 2, 1);
        house.put(0, 1, 8, 1);
        maps("no fault", 0, -1);
        house.handler(0, 1, 2, 3, 0);
        maps("another one does not suit", 10, 1);
        mapAt(3, 1, 11, 1, 11, 0, 0, 0, 10);
        maps("both suit, ahead of the STORE", 0, -1);
        house.handler(0, 2, 3, 3, 0);
        maps("but not behind it", 10, 2);
        build(2, 0, 26, 0);
        house.handler(0, 0, 1, 9, 0);
        maps("a TARGET without INSTRUCTION and map", 10, 0);
        mapAt(9, 1);
        maps("a TARGET without INSTRUCTION, with a map", 0, -1);
        house.handler(0, 5, 9, 20, 0);
        maps("a HANDLER for no PLACE", 0, -1);
    }

    private void byMapsConstructor() {
        build(26, 0);
        tell(1, 5, 0, 18, 1, 26, 0);
        due.same("16: no map", house.ofMethod(1, 2), 0);
        house.map(1, 1, 1, 0, true);
        house.word(1, 1, 6, 5);
        due.same("16: not DONE for one that is", house.ofMethod(1, 2), 10);
        house.map(1, 1, 1, 0, false);
        house.word(1, 1, 6, 5);
        due.same("16: not DONE", house.ofMethod(1, 2), 0);
        house.map(1, 2, 0, 0, false);
        due.same("16: DONE for one that is not: GIVE", house.ofMethod(1, 2), 7);
        due.same("16: its place", house.ofMethod(1, 3), 2);
        house.word(1, 2, 0, 11);
        house.map(1, 2, 0, 0, true);
        due.same("16: DONE", house.ofMethod(1, 2), 0);
        house.map(1, 1, 1, 0, false);
        house.word(1, 1, 6, 123);
        due.same("16: HALF is not fit for MADE", house.ofMethod(1, 2), 10);
    }

    private void many() {
        build(2, 0, 26, 0);
        tell(1, 26, 0);
        house.field(1, 0, 0);
        house.handler(0, 0, 1, 0, 0);
        house.handler(1, 5, 6, 0, 0);
        int[] counts = {5, 1, 2, 3, 0, 0, 2};
        for (int what = 0; what < counts.length; what++) {
            due.same("21: many(" + what + ")", house.many(what), counts[what]);
        }
        house.clear(0);
        due.same("21: by ways", house.many(4), 1);
        due.same("21: by maps", house.many(5), 1);
        house.put(0, 0, 14, 1);
        due.same("21: by ways", house.many(4), 1);
        due.same("21: by maps", house.many(5), 0);
        house.put(1, 0, 14, 0);
        due.same("21: by ways", house.many(4), 1);
        house.add(0, 2, 0);
        due.same("21: INSTRUCTIONS", house.many(3), 4);
        due.same("21: HANDLERS", house.many(6), 1);
    }

    private void meanWords() {
        build();
        due.same("22: without any", house.meanWords(0), 0.0);
        build(2, 0, 2, 0, 26, 0, 2, 0);
        due.same("22: not of dead ones", house.meanWords(0), 1.0);
        build(2, 0, 11, 0, 26, 0);
        due.same("22: not cut", house.meanWords(0), 1.0 / 3.0);
        build(2, 0, 2, 0, 10, 0, 26, 0);
        due.same("22: not of broken ones", house.meanWords(0), 1.0);
        build(11, 0, 14, 0);
        due.same("22: all are broken", house.meanWords(0), 0.0);
    }
}
