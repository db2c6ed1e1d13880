/** METHODS without CODE, HANDLERS or MAPS; HANDLERS and MAPS at PLACES behind the CODE, also after cut(). */
public final class BehindTest {
    private final Due due = new Due();
    private FramemapHouse house;

    public static void main(String[] args) {
        BehindTest test = new BehindTest();
        test.withoutCode();
        test.withoutCodeAfterCut();
        test.withoutHandlers();
        test.withoutMaps();
        test.mapsBehind();
        test.mapsBehindAfterCut();
        test.suggestTakesThemAway();
        test.rangeBehind();
        test.targetBehindByWays();
        test.targetBehindByMaps();
        test.targetBehindInARun();
        test.throwWithLocksInARange();
        test.goBehindAfterCut();
        test.newBehindAfterCut();
        test.nothingComesBehind();
        test.handlersAndMapsStay();
        test.due.end();
    }

    /** CLASS 1; METHOD 0 of it without ARGUMENTS, METHOD 1 a CONSTRUCTOR. */
    private void build(int... steps) {
        house = new FramemapHouse();
        house.kind(0, false, 0);
        house.field(1, 0, 0);
        house.method(1, false, -1, -1, -1);
        house.method(1, true, -1, -1, -1);
        tell(steps);
    }

    private void tell(int... steps) {
        for (int i = 0; i < steps.length; i += 2) {
            house.add(0, steps[i], steps[i + 1]);
        }
    }

    private void facts(String label, int... facts) {
        for (int what = 0; what < facts.length; what++) {
            due.same("16: " + label + ": ofMethod(0, " + what + ")", house.ofMethod(0, what), facts[what]);
        }
    }

    private void isWithoutCode(String label, int maps, int handlers) {
        facts(label, 11, -1, 11, -1, 0, 0, 0, maps, handlers);
        due.same("24: " + label, house.verdictBare(0), 11);
        due.same("25: " + label, house.verdictBy(0, 0, 3), 11);
        due.same("22: " + label, house.meanWords(0), 0.0);
        due.same("21: " + label + ", by ways", house.many(4), 0);
        due.same("21: " + label + ", by maps", house.many(5), 0);
        due.same("21: " + label + ", INSTRUCTIONS", house.many(3), 0);
        due.same("21: " + label + ", HANDLERS", house.many(6), handlers);
        due.noSuch(house, "9: " + label, () -> house.put(0, 0, 26, 0));
        due.noSuch(house, "17: " + label, () -> house.ofFrame(0, 0, 0));
        due.noSuch(house, "18: " + label, () -> house.mark(0, 0, 0));
        due.noSuch(house, "23: " + label, () -> house.verdictWith(0, 0, 26, 0));
        due.notNow(house, "10: " + label, () -> house.cut(0));
        due.notNow(house, "19: " + label, () -> house.run(0, 0, 0));
        due.same("20: " + label + ", no RUNS", house.ofRun(8), 0);
    }

    private void withoutCode() {
        build();
        isWithoutCode("without CODE", 0, 0);
        house.handler(0, 0, 24, 0, 0);
        house.map(0, 0, 0, 0, true);
        house.map(0, 23, 6, 9, false);
        isWithoutCode("without CODE, with MAPS", 2, 1);
        due.same("14: a word of such a MAP", house.word(0, 23, 11, 4), 0);
        due.same("14: it is kept", house.word(0, 23, 11, 1), 4);
        due.same("12: its HANDLER", house.clear(0), 1);
        due.same("15: none", house.suggest(0), 0);
        isWithoutCode("without CODE, all away", 0, 0);
        tell(26, 0);
        facts("with CODE", 0, -1, 0, -1, 0, 0, 1, 0, 0);
        house.add(1, 17, 1);
        house.add(1, 18, 1);
        due.same("2: INIT by what has no GIVE", house.verdictWith(1, 1, 11, 0), 4);
        build(17, 1, 18, 1, 5, 0, 19, 0, 26, 0);
        due.same("4: INIT by a CONSTRUCTOR without CODE", house.ofMethod(0, 0), 0);
        due.same("7: INIT and CALL of what has no CODE", house.run(0, 0, 0), 0);
    }

    private void withoutCodeAfterCut() {
        build(2, 0, 26, 0);
        house.handler(0, 0, 1, 1, 0);
        house.map(0, 1, 0, 0, true);
        due.same("10: the last one", house.cut(0), 26);
        facts("one is left", 4, 0, 4, 0, 0, 0, 1, 1, 1);
        due.same("10: the first one", house.cut(0), 2);
        isWithoutCode("without CODE after cut", 1, 1);
        due.same("8: at the PLACE 0 again", house.add(0, 26, 0), 0);
        facts("with CODE again", 0, -1, 10, 0, 0, 0, 1, 1, 1);
        house.map(0, 1, 1, 0, true);
        facts("with CODE again, and what SUITS", 0, -1, 0, -1, 0, 0, 1, 1, 1);
    }

    private void withoutHandlers() {
        build(2, 0, 27, 0, 26, 0);
        due.same("12: none", house.clear(0), 0);
        due.same("16: none", house.ofMethod(0, 8), 0);
        due.same("5: DEAD behind the THROW", house.ofFrame(0, 2, 0), 0);
        due.same("24: the same VERDICT", house.verdictBare(0), house.ofMethod(0, 0));
        due.same("7: THROWN", house.run(0, 0, 0), 1);
        due.same("7: where it is THROWN", house.ofRun(1), 1);
        house.handler(0, 1, 2, 2, 0);
        due.same("5: a way by the HANDLER", house.ofFrame(0, 2, 0), 1);
        due.same("7: caught", house.run(0, 0, 0), 0);
        due.same("12: one", house.clear(0), 1);
        due.same("5: DEAD again", house.ofFrame(0, 2, 0), 0);
        due.same("7: THROWN again", house.run(0, 0, 0), 1);
    }

    private void withoutMaps() {
        build(2, 0, 11, 0, 26, 0);
        facts("a line needs none", 0, -1, 0, -1, 0, 0, 2, 0, 0);
        due.noSuch(house, "14: no MAP", () -> house.word(0, 0, 0, 0));
        due.same("15: none to suggest", house.suggest(0), 0);
        house.put(0, 0, 14, 1);
        due.same("6: GO without a MAP", house.ofMethod(0, 2), 10);
        house.put(0, 0, 2, 0);
        house.add(0, 26, 0);
        due.same("6: what comes behind GIVE needs one", house.ofMethod(0, 2), 10);
        due.same("6: its PLACE", house.ofMethod(0, 3), 3);
    }

    private void mapsBehind() {
        build(2, 0, 26, 0);
        due.same("13: right behind the CODE", house.map(0, 2, 6, 9, false), 1);
        due.same("13: at the last PLACE", house.map(0, 23, 6, 9, false), 2);
        facts("they are not asked", 0, -1, 0, -1, 0, 0, 2, 2, 0);
        due.same("14: a word of it", house.word(0, 2, 11, 123), 0);
        due.same("14: it is kept", house.word(0, 2, 11, 5), 123);
        due.same("13: told anew", house.map(0, 2, 1, 0, true), 2);
        due.same("14: NOTHING so far", house.word(0, 2, 6, 0), 0);
        tell(11, 0);
        facts("the MAP is asked now", 0, -1, 2, 2, 1, 0, 2, 2, 0);
        house.word(0, 2, 6, 1);
        facts("the MAP is as it was told", 0, -1, 4, 2, 1, 0, 2, 2, 0);
        tell(26, 0);
        facts("what comes from the MAP", 0, -1, 0, -1, 2, 0, 2, 2, 0);
    }

    private void mapsBehindAfterCut() {
        build(14, 1, 2, 0, 11, 0, 26, 0);
        due.same("15: where GO goes to", house.suggest(0), 1);
        house.map(0, 2, 2, 0, true);
        facts("a MAP that is not SUITED", 0, -1, 10, 2, 0, 0, 2, 2, 0);
        house.cut(0);
        house.cut(0);
        facts("MAPS count as before", 4, 1, 4, 1, 0, 0, 2, 2, 0);
        house.put(0, 1, 26, 0);
        facts("they are not asked", 0, -1, 0, -1, 0, 0, 2, 2, 0);
        due.same("14: that is there still", house.word(0, 2, 7, 4), 0);
        house.put(0, 1, 2, 0);
        tell(26, 0);
        facts("and they are again", 0, -1, 10, 2, 0, 0, 2, 2, 0);
        house.cut(0);
        house.cut(0);
        facts("GO to a PLACE with a MAP, but nothing there", 4, 0, 4, 0, 0, 0, 1, 2, 0);
    }

    private void suggestTakesThemAway() {
        build(14, 2, 26, 0, 26, 0);
        house.map(0, 3, 0, 0, true);
        house.map(0, 23, 0, 0, true);
        house.map(0, 0, 3, 0, true);
        house.map(0, 1, 3, 0, true);
        due.same("15: only where GO goes to", house.suggest(0), 1);
        for (int place : new int[] {0, 1, 3, 23}) {
            due.noSuch(house, "15: none at " + place, () -> house.word(0, place, 0, 0));
        }
        due.same("15: one at 2", house.word(0, 2, 0, 11), 11);
        house.map(0, 20, 0, 0, true);
        house.cut(0);
        house.map(0, 2, 0, 0, true);
        due.same("15: none where nothing is any more", house.suggest(0), 0);
        due.noSuch(house, "15: none behind the CODE", () -> house.word(0, 2, 0, 0));
        build(26, 0, 2, 0);
        house.handler(0, 0, 1, 2, 0);
        due.same("15: none behind the CODE", house.suggest(0), 0);
        tell(26, 0);
        due.same("15: where the HANDLER goes to", house.suggest(0), 1);
    }

    private void rangeBehind() {
        build(2, 0, 26, 0, 26, 0);
        house.handler(0, 3, 24, 2, 0);
        facts("a range behind the CODE", 0, -1, 10, 2, 1, 0, 2, 0, 1);
        house.handler(0, 1, 24, 2, 0);
        facts("a range that ends behind the CODE", 0, -1, 10, 1, 0, 0, 2, 0, 2);
        house.map(0, 2, 1, 0, true);
        facts("with a MAP", 0, -1, 0, -1, 0, 0, 2, 1, 2);
        house.cut(0);
        facts("its TARGET is cut", 0, -1, 0, -1, 0, 0, 2, 1, 2);
    }

    private void targetBehindByWays() {
        build(2, 0, 11, 0, 26, 0);
        house.handler(0, 0, 3, 3, 0);
        facts("a TARGET right behind the CODE", 0, -1, 10, 0, 0, 0, 2, 0, 1);
        due.same("22: three FRAMES", house.meanWords(0), 1.0 / 3.0);
        tell(26, 0);
        facts("a TARGET in the CODE", 0, -1, 10, 0, 0, 0, 2, 0, 1);
        due.same("18: what comes there", house.mark(0, 3, 6), 10);
        due.same("22: four FRAMES", house.meanWords(0), 0.5);
        house.cut(0);
        facts("a TARGET behind the CODE again", 0, -1, 10, 0, 0, 0, 2, 0, 1);
        house.clear(0);
        house.handler(0, 0, 3, 23, 0);
        facts("a TARGET far behind the CODE", 0, -1, 10, 0, 0, 0, 2, 0, 1);
    }

    private void targetBehindByMaps() {
        build(2, 0, 26, 0, 26, 0);
        house.map(0, 2, 1, 0, true);
        house.handler(0, 0, 2, 2, 0);
        facts("in the CODE", 0, -1, 0, -1, 0, 0, 2, 1, 1);
        house.cut(0);
        facts("a MAP behind the CODE that is SUITED", 0, -1, 0, -1, 0, 0, 2, 1, 1);
        house.word(0, 2, 6, 11);
        facts("a MAP behind the CODE that is not", 0, -1, 10, 0, 0, 0, 2, 1, 1);
        house.map(0, 2, 1, 1, true);
        facts("other LOCKS behind the CODE", 0, -1, 10, 0, 0, 0, 2, 1, 1);
        house.suggest(0);
        facts("no MAP behind the CODE", 0, -1, 10, 0, 0, 0, 2, 0, 1);
    }

    private void targetBehindInARun() {
        build(2, 0, 27, 0, 26, 0, 26, 0);
        house.handler(0, 1, 2, 3, 0);
        house.handler(0, 1, 2, 2, 0);
        due.same("7: the first one", house.run(0, 0, 0), 0);
        due.same("7: where it goes to", house.ofRun(1), 3);
        house.cut(0);
        due.same("7: the first one with an INSTRUCTION", house.run(0, 0, 0), 0);
        due.same("7: where it goes to", house.ofRun(1), 2);
        house.cut(0);
        due.same("7: none with an INSTRUCTION", house.run(0, 0, 0), 1);
        due.same("7: where it is THROWN", house.ofRun(1), 1);
        due.same("7: the CLASS of what is THROWN", house.ofRun(4), 0);
        tell(11, 0, 26, 0);
        due.same("7: the first one again", house.run(0, 0, 0), 0);
        due.same("7: where it goes to", house.ofRun(1), 3);
    }

    private void throwWithLocksInARange() {
        build(2, 0, 28, 0, 2, 0, 27, 0);
        due.same("4: in no range", house.ofMethod(0, 0), 9);
        house.handler(0, 4, 24, 0, 0);
        due.same("4: a range right behind it", house.ofMethod(0, 0), 9);
        house.handler(0, 3, 4, 4, 0);
        due.same("4: in a range, with a TARGET behind the CODE", house.ofMethod(0, 0), 0);
        due.same("24: without it", house.verdictBare(0), 9);
    }

    private void goBehindAfterCut() {
        build(14, 2, 26, 0, 26, 0);
        house.suggest(0);
        house.map(0, 1, 0, 0, true);
        facts("in the CODE", 0, -1, 0, -1, 1, 0, 2, 2, 0);
        house.cut(0);
        facts("behind the CODE", 4, 0, 4, 0, 1, 0, 1, 2, 0);
        due.same("7: a RUN", house.run(0, 0, 0), 3);
        house.add(0, 26, 0);
        facts("in the CODE again", 0, -1, 0, -1, 1, 0, 2, 2, 0);
        due.same("7: a RUN", house.run(0, 0, 0), 0);
    }

    /** What stood at a PLACE ahead of cut() is not there any more. */
    private void newBehindAfterCut() {
        build(26, 0, 18, 1, 26, 0, 17, 1);
        house.map(0, 1, 1, 0, true);
        house.word(0, 1, 6, 103);
        due.same("4: MADE at a PLACE with NEW", house.ofMethod(0, 2), 10);
        due.same("4: its PLACE", house.ofMethod(0, 3), 3);
        house.cut(0);
        due.same("4: MADE at a PLACE without NEW any more", house.ofMethod(0, 2), 7);
        due.same("4: its PLACE", house.ofMethod(0, 3), 1);
        tell(2, 0);
        due.same("4: MADE at a PLACE with another one", house.ofMethod(0, 2), 7);
        house.put(0, 3, 17, 0);
        due.same("4: with NEW of another CLASS", house.ofMethod(0, 2), 7);
        house.put(0, 3, 17, 1);
        due.same("4: with NEW again", house.ofMethod(0, 2), 10);
        house.map(0, 3, 0, 0, true);
        due.same("4: nothing behind the NEW", house.ofMethod(0, 2), 4);
    }

    /** What would go on behind the CODE comes nowhere. */
    private void nothingComesBehind() {
        build(2, 0, 2, 0);
        facts("the last one goes on", 4, 1, 4, 1, 0, 0, 2, 0, 0);
        due.same("22: two FRAMES", house.meanWords(0), 0.5);
        due.same("15: none", house.suggest(0), 0);
        house.map(0, 2, 3, 1, false);
        facts("with a MAP behind it", 4, 1, 4, 1, 0, 0, 2, 1, 0);
        tell(26, 0);
        due.same("5: now it comes there", house.ofFrame(0, 2, 1), 2);
        house.put(0, 1, 11, 0);
        due.same("5: as it is now", house.ofFrame(0, 2, 1), 0);
        build(11, 0);
        facts("a BROKEN one goes on", 1, 0, 1, 0, 0, 0, 1, 0, 0);
        build(3, 1, 15, 2);
        facts("GO if, behind the CODE", 3, 0, 3, 0, 0, 0, 2, 0, 0);
        due.same("22: two FRAMES", house.meanWords(0), 0.5);
    }

    private void handlersAndMapsStay() {
        build();
        for (int place = 0; place < 24; place++) {
            house.add(0, 26, 0);
            house.map(0, place, 0, 0, true);
        }
        for (int from : new int[] {0, 5, 22, 23}) {
            house.handler(0, from, 24, 23, 1);
        }
        for (int left = 23; left >= 0; left--) {
            house.cut(0);
            due.same("10: INSTRUCTIONS", house.many(3), left);
            due.same("10: MAPS", house.ofMethod(0, 7), 24);
            due.same("10: HANDLERS", house.ofMethod(0, 8), 4);
            due.same("10: HANDLERS of all", house.many(6), 4);
            due.same("10: the first one", house.ofMethod(0, 0), left == 0 ? 11 : 0);
            due.same("10: what goes to the HANDLER's MAP", house.ofMethod(0, 2), left == 0 ? 11 : 10);
        }
        due.same("13: a MAP is there still", house.word(0, 23, 5, 4), 0);
        due.same("12: the HANDLERS are there still", house.clear(0), 4);
        tell(26, 0);
        due.same("6: without them", house.ofMethod(0, 2), 0);
    }
}
