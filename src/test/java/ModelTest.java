import java.util.Random;
import java.util.function.DoubleSupplier;

/** Asks the house and the model the same calls, many of them, from fixed seeds. */
public final class ModelTest {
    private static final int HOUSES = Integer.getInteger("houses", 400);
    // A house is promised to serve 512 calls; one round of the test makes at most a dozen.
    private static final int CALLS = 495;

    private final Due due = new Due();
    private Random random;
    private FramemapHouse house;
    private Model model;
    private String label;
    private int asked;

    public static void main(String[] args) {
        ModelTest test = new ModelTest();
        for (int seed = 0; seed < HOUSES; seed++) {
            test.tryHouse(seed);
        }
        test.due.end();
    }

    private int any(int from, int to) {
        return from + random.nextInt(to - from + 1);
    }

    private boolean isOne(int in) {
        return random.nextInt(in) == 0;
    }

    private static double answer(DoubleSupplier call) {
        try {
            return call.getAsDouble();
        } catch (IndexOutOfBoundsException thrown) {
            return 1e30 + (thrown.getClass() == IndexOutOfBoundsException.class ? 0 : 1e20);
        } catch (IllegalArgumentException thrown) {
            return 2e30 + (thrown.getClass() == IllegalArgumentException.class ? 0 : 1e20);
        } catch (IllegalStateException thrown) {
            return 3e30 + (thrown.getClass() == IllegalStateException.class ? 0 : 1e20);
        }
    }

    private void ask(String call, DoubleSupplier ofHouse, DoubleSupplier ofModel) {
        asked++;
        due.same(label + call, answer(ofHouse), answer(ofModel));
    }

    private void tryHouse(int seed) {
        random = new Random(seed);
        house = new FramemapHouse();
        model = new Model();
        label = "seed " + seed + ": ";
        asked = 0;
        for (int i = any(0, 7); i > 0; i--) {
            tellKind();
        }
        for (int i = any(0, 6); i > 0; i--) {
            tellField();
        }
        for (int i = any(1, 6); i > 0; i--) {
            tellMethod();
        }
        for (int call = 0; asked < CALLS && call < CALLS; call++) {
            tryCall(call);
        }
        due.same(label + "digest()", house.digest(), model.digest());
    }

    private void tellKind() {
        int parent = isOne(8) ? any(-1, 10) : any(0, model.kinds.size() - 1);
        boolean isInterface = isOne(5);
        int where = isOne(30) ? any(-1, 4) : any(0, 1);
        int parentOrObject = isInterface && !isOne(6) ? 0 : parent;
        ask("kind(" + parentOrObject + ", " + isInterface + ", " + where + ")",
                () -> house.kind(parentOrObject, isInterface, where),
                () -> model.kind(parentOrObject, isInterface, where));
    }

    private int anyKind() {
        return isOne(40) ? any(-1, 11) : any(0, model.kinds.size() - 1);
    }

    private int anyType() {
        if (isOne(40)) {
            return any(-2, 21);
        }
        int type = any(0, 4);
        return type < 2 ? type : 10 + anyKind();
    }

    private int anyTypeOrNone() {
        return isOne(2) ? -1 : anyType();
    }

    private int anyMark() {
        int mark = any(0, 14);
        if (mark < 6) {
            return mark;
        }
        return mark < 12 ? 10 + anyKind() : any(99, 124);
    }

    private void tellField() {
        int kind = anyKind();
        int type = anyType();
        int access = isOne(30) ? any(-1, 4) : any(0, 3);
        ask("field(" + kind + ", " + type + ", " + access + ")", () -> house.field(kind, type, access),
                () -> model.field(kind, type, access));
    }

    private void tellMethod() {
        int kind = anyKind();
        boolean isMaker = isOne(3);
        int first = anyTypeOrNone();
        int second = first == -1 && !isOne(20) ? -1 : anyTypeOrNone();
        int result = isMaker && !isOne(20) ? -1 : anyTypeOrNone();
        ask("method(" + kind + ", " + isMaker + ", " + first + ", " + second + ", " + result + ")",
                () -> house.method(kind, isMaker, first, second, result),
                () -> model.method(kind, isMaker, first, second, result));
    }

    private int anyMethod() {
        return isOne(60) ? any(-1, 6) : any(0, Math.max(0, model.codes.size() - 1));
    }

    private int anyPlace(int method) {
        if (isOne(30) || method < 0 || method >= model.codes.size()) {
            return any(-1, 24);
        }
        return any(0, Math.max(0, model.codes.get(method).steps.size() - 1));
    }

    private int anyArgument(int op, int method) {
        if (isOne(60)) {
            return any(-101, 101);
        }
        if (op < 2) {
            return isOne(2) ? any(-1, 1) : any(-99, 99);
        }
        if (op >= 3 && op <= 8) {
            return any(0, 5);
        }
        if (op >= 14 && op <= 16) {
            return isOne(5) ? any(0, 23) : anyPlace(method);
        }
        if (op == 17 || op == 22) {
            return anyKind();
        }
        if (op == 18 || op == 19) {
            return anyMethod();
        }
        return op == 20 || op == 21 ? any(0, Math.max(0, model.fields.size() - 1)) : 0;
    }

    private int anyOp() {
        int op = any(0, 42);
        return op < 30 ? op : new int[] {5, 5, 5, 17, 17, 18, 18, 19, 20, 21, 3, 8, 16}[op - 30];
    }

    /** An instruction that mostly has no fault at a place with a frame. */
    private Model.Step anyStep(int method, int place, Model.Frame frame) {
        boolean isCareful = frame != null && !frame.isBroken && !isOne(8);
        Model.Step step = new Model.Step(0, 0);
        for (int trial = 0; trial < 40; trial++) {
            int op = isOne(300) ? any(-1, 30) : anyOp();
            step = new Model.Step(op, anyArgument(op, method));
            if (!isCareful) {
                return step;
            }
            if (op >= 23 && op <= 27 && place < 12 && !isOne(4)) {
                continue;
            }
            if (isFine(method, place, step, frame)) {
                return step;
            }
        }
        return step;
    }

    private boolean isFine(int method, int place, Model.Step step, Model.Frame frame) {
        Model.Code code = model.codes.get(method);
        try {
            if (place == code.steps.size()) {
                model.add(method, step.op(), step.a());
                boolean isGood = faultOf(code, place, frame) % 4 == 0;
                model.cut(method);
                return isGood;
            }
            Model.Step before = code.steps.get(place);
            model.put(method, place, step.op(), step.a());
            boolean isGood = faultOf(code, place, frame) == 0;
            code.steps.set(place, before);
            return isGood;
        } catch (IndexOutOfBoundsException | IllegalArgumentException | IllegalStateException thrown) {
            return false;
        }
    }

    private int faultOf(Model.Code code, int place, Model.Frame frame) {
        return model.new Doing(code, code.handlers, place, frame).fault();
    }

    private Model.Frame frameAt(int method, int place) {
        Model.Code code = model.codes.get(method);
        if (place > code.steps.size()) {
            return null;
        }
        if (place < code.steps.size()) {
            return model.new Ways(code, code.handlers).frames.get(place);
        }
        code.steps.add(new Model.Step(26, 0));
        Model.Frame frame = model.new Ways(code, code.handlers).frames.get(place);
        code.steps.remove(place);
        return frame;
    }

    private void tryCall(int call) {
        int method = anyMethod();
        boolean isTold = method >= 0 && method < model.codes.size();
        int kindOfCall = call < 120 ? any(0, 9) : any(0, 39);
        if (kindOfCall < 9) {
            addStep(method, isTold);
        } else if (kindOfCall < 20) {
            change(kindOfCall, method, isTold);
        } else {
            askOne(kindOfCall, method, isTold);
        }
        if (isOne(50)) {
            asked++;
            due.same(label + call + " digest()", house.digest(), model.digest());
        }
    }

    private void addStep(int method, boolean isTold) {
        int place = isTold ? model.codes.get(method).steps.size() : 0;
        Model.Step step = anyStep(method, place, isTold ? frameAt(method, place) : null);
        ask("add(" + method + ", " + step.op() + ", " + step.a() + ")", () -> house.add(method, step.op(), step.a()),
                () -> model.add(method, step.op(), step.a()));
    }

    private void change(int kindOfCall, int method, boolean isTold) {
        int place = anyPlace(method);
        if (kindOfCall < 12) {
            boolean isThere = isTold && place >= 0 && place < model.codes.get(method).steps.size();
            Model.Step step = anyStep(method, place, isThere ? frameAt(method, place) : null);
            ask("put(" + method + ", " + place + ", " + step.op() + ", " + step.a() + ")",
                    () -> house.put(method, place, step.op(), step.a()),
                    () -> model.put(method, place, step.op(), step.a()));
        } else if (kindOfCall == 12) {
            ask("cut(" + method + ")", () -> house.cut(method), () -> model.cut(method));
        } else if (kindOfCall == 13) {
            int to = place + any(isOne(20) ? 0 : 1, 8);
            int target = isOne(4) ? any(-1, 24) : anyPlace(method);
            int kind = isOne(2) ? 0 : anyKind();
            ask("handler(" + method + ", " + place + ", " + to + ", " + target + ", " + kind + ")",
                    () -> house.handler(method, place, to, target, kind),
                    () -> model.handler(method, place, to, target, kind));
        } else if (kindOfCall == 14) {
            ask("clear(" + method + ")", () -> house.clear(method), () -> model.clear(method));
        } else if (kindOfCall == 15) {
            int words = any(isOne(20) ? -1 : 0, isOne(20) ? 7 : 2);
            int locks = any(isOne(20) ? -1 : 0, isOne(20) ? 10 : 1);
            boolean isDone = isOne(2);
            ask("map(" + method + ", " + place + ", " + words + ", " + locks + ", " + isDone + ")",
                    () -> house.map(method, place, words, locks, isDone),
                    () -> model.map(method, place, words, locks, isDone));
        } else if (kindOfCall == 16) {
            int word = any(-1, 9);
            int mark = anyMark();
            ask("word(" + method + ", " + place + ", " + word + ", " + mark + ")",
                    () -> house.word(method, place, word, mark), () -> model.word(method, place, word, mark));
        } else if (kindOfCall == 17 || kindOfCall == 18) {
            ask("suggest(" + method + ")", () -> house.suggest(method), () -> model.suggest(method));
        } else if (isOne(3)) {
            tellKind();
            tellField();
            tellMethod();
        }
    }

    private int anyGiven(int method, int index, boolean isTold) {
        if (isTold && index >= model.codes.get(method).types.size()) {
            return isOne(30) ? any(-2, 2) : 0;
        }
        return any(-1, isOne(10) ? 12 : model.kinds.size() - 1);
    }

    private void askOne(int kindOfCall, int method, boolean isTold) {
        int place = anyPlace(method);
        int what = any(isOne(30) ? -1 : 0, isOne(30) ? 9 : 8);
        if (kindOfCall < 23) {
            ask("ofMethod(" + method + ", " + what + ")", () -> house.ofMethod(method, what),
                    () -> model.ofMethod(method, what));
        } else if (kindOfCall < 25) {
            ask("ofFrame(" + method + ", " + place + ", " + what / 2 + ")",
                    () -> house.ofFrame(method, place, what / 2), () -> model.ofFrame(method, place, what / 2));
        } else if (kindOfCall < 27) {
            int word = any(-1, 9);
            ask("mark(" + method + ", " + place + ", " + word + ")", () -> house.mark(method, place, word),
                    () -> model.mark(method, place, word));
        } else if (kindOfCall < 32) {
            int first = anyGiven(method, 0, isTold);
            int second = anyGiven(method, 1, isTold);
            ask("run(" + method + ", " + first + ", " + second + ")",
                    () -> house.run(method, first, second), () -> model.run(method, first, second));
            for (int i = 0; i <= 8; i++) {
                int fact = i;
                ask("ofRun(" + i + ")", () -> house.ofRun(fact), () -> model.ofRun(fact));
            }
        } else if (kindOfCall == 32) {
            ask("many(" + what + ")", () -> house.many(what), () -> model.many(what));
            ask("meanWords(" + method + ")", () -> house.meanWords(method), () -> model.meanWords(method));
        } else if (kindOfCall < 35) {
            int op = anyOp();
            int a = anyArgument(op, method);
            ask("verdictWith(" + method + ", " + place + ", " + op + ", " + a + ")",
                    () -> house.verdictWith(method, place, op, a), () -> model.verdictWith(method, place, op, a));
        } else if (kindOfCall == 35) {
            ask("verdictBare(" + method + ")", () -> house.verdictBare(method), () -> model.verdictBare(method));
        } else if (kindOfCall == 36) {
            int field = any(-1, model.fields.size());
            int access = any(isOne(10) ? -1 : 0, isOne(10) ? 4 : 3);
            ask("verdictBy(" + method + ", " + field + ", " + access + ")",
                    () -> house.verdictBy(method, field, access), () -> model.verdictBy(method, field, access));
        } else {
            askMarks();
        }
    }

    private void askMarks() {
        int one = anyMark();
        int other = anyMark();
        ask("isFit(" + one + ", " + other + ")", () -> house.isFit(one, other) ? 1 : 0,
                () -> model.isFit(one, other) ? 1 : 0);
        ask("common(" + one + ", " + other + ")", () -> house.common(one, other), () -> model.common(one, other));
        int below = anyKind();
        int above = anyKind();
        ask("isBelow(" + below + ", " + above + ")", () -> house.isBelow(below, above) ? 1 : 0,
                () -> model.isBelow(below, above) ? 1 : 0);
    }
}
