import java.util.ArrayList;
import java.util.Collections;
import java.util.List;
import java.util.TreeMap;
import java.util.TreeSet;

/** The document told a second time, another way: words are popped one by one, frames are lists. */
final class Model {
    record Kind(int parent, boolean isInterface, int where) {
    }

    record Field(int kind, int type, int access) {
    }

    record Handler(int from, int to, int target, int kind) {
    }

    record Step(int op, int a) {
    }

    static final class Code {
        int kind;
        boolean isConstructor;
        List<Integer> types = new ArrayList<>();
        int result;
        List<Step> steps = new ArrayList<>();
        List<Handler> handlers = new ArrayList<>();
        TreeMap<Integer, Frame> maps = new TreeMap<>();

        boolean has(int place) {
            return place >= 0 && place < steps.size();
        }
    }

    static final class Frame {
        boolean isBroken;
        List<Integer> locals = new ArrayList<>(Collections.nCopies(6, 0));
        List<Integer> stack = new ArrayList<>();
        int locks;
        boolean isDone;

        Frame copy() {
            Frame other = new Frame();
            other.isBroken = isBroken;
            other.locals = new ArrayList<>(locals);
            other.stack = new ArrayList<>(stack);
            other.locks = locks;
            other.isDone = isDone;
            return other;
        }

        boolean isSame(Frame other) {
            if (isBroken || other.isBroken) {
                return isBroken == other.isBroken;
            }
            return locals.equals(other.locals) && stack.equals(other.stack) && locks == other.locks
                    && isDone == other.isDone;
        }

        List<Integer> all() {
            List<Integer> all = new ArrayList<>(locals);
            all.addAll(stack);
            return all;
        }
    }

    /** Too few words or too many. */
    static final class Overrun extends RuntimeException {
        private static final long serialVersionUID = 1;
    }

    final List<Kind> kinds = new ArrayList<>(List.of(new Kind(-1, false, 0)));
    final List<Field> fields = new ArrayList<>();
    final List<Code> codes = new ArrayList<>();
    private int[] lastRun = new int[8];
    private int runs = 0;

    private static void index(boolean isRight) {
        if (!isRight) {
            throw new IndexOutOfBoundsException();
        }
    }

    private static void argument(boolean isRight) {
        if (!isRight) {
            throw new IllegalArgumentException();
        }
    }

    private static void state(boolean isRight) {
        if (!isRight) {
            throw new IllegalStateException();
        }
    }

    private static boolean in(int number, int from, int to) {
        return from <= number && number <= to;
    }

    private boolean hasKind(int kind) {
        return in(kind, 0, kinds.size() - 1);
    }

    private boolean isClass(int kind) {
        return hasKind(kind) && !kinds.get(kind).isInterface;
    }

    private boolean isType(int type) {
        return in(type, 0, 1) || in(type, 10, 9 + kinds.size());
    }

    private boolean isMark(int mark) {
        return in(mark, 0, 5) || in(mark, 10, 9 + kinds.size()) || in(mark, 100, 123);
    }

    private Code code(int method) {
        index(in(method, 0, codes.size() - 1));
        return codes.get(method);
    }

    private Code code(int method, int place) {
        index(code(method).has(place));
        return code(method);
    }

    private boolean isStep(int op, int a) {
        if (op == 0 || op == 1) {
            return in(a, -99, 99);
        }
        if (op == 4 || op == 7) {
            return in(a, 0, 4);
        }
        if (in(op, 3, 8)) {
            return in(a, 0, 5);
        }
        if (in(op, 14, 16)) {
            return in(a, 0, 23);
        }
        if (op == 17) {
            return isClass(a);
        }
        if (op == 18 || op == 19) {
            return in(a, 0, codes.size() - 1) && codes.get(a).isConstructor == (op == 18);
        }
        if (op == 20 || op == 21) {
            return in(a, 0, fields.size() - 1);
        }
        if (op == 22) {
            return hasKind(a);
        }
        return in(op, 0, 29) && a == 0;
    }

    int kind(int parent, boolean isInterface, int where) {
        argument(isClass(parent) && !(isInterface && parent != 0) && in(where, 0, 3));
        state(kinds.size() < 10);
        kinds.add(new Kind(parent, isInterface, where));
        return kinds.size() - 1;
    }

    int field(int kind, int type, int access) {
        index(hasKind(kind));
        argument(isClass(kind) && isType(type) && in(access, 0, 3));
        state(fields.size() < 10);
        fields.add(new Field(kind, type, access));
        return fields.size() - 1;
    }

    int method(int kind, boolean isConstructor, int first, int second, int result) {
        index(hasKind(kind));
        argument(isClass(kind));
        for (int type : new int[] {first, second, result}) {
            argument(type == -1 || isType(type));
        }
        argument(first != -1 || second == -1);
        argument(!isConstructor || result == -1);
        state(codes.size() < 6);
        Code code = new Code();
        code.kind = kind;
        code.isConstructor = isConstructor;
        if (first != -1) {
            code.types.add(first);
        }
        if (second != -1) {
            code.types.add(second);
        }
        code.result = result;
        codes.add(code);
        return codes.size() - 1;
    }

    boolean isBelow(int one, int other) {
        index(hasKind(one) && hasKind(other));
        return below(one, other);
    }

    private boolean below(int one, int other) {
        return one == other || (one > 0 && below(kinds.get(one).parent, other));
    }

    boolean isFit(int one, int other) {
        argument(isMark(one) && isMark(other));
        return fit(one, other);
    }

    private static boolean isReference(int mark) {
        return in(mark, 10, 19);
    }

    private boolean fit(int one, int other) {
        return one == other || other == 0 || (one == 4 && isReference(other))
                || (isReference(one) && isReference(other)
                        && (kinds.get(other - 10).isInterface || below(one - 10, other - 10)));
    }

    int common(int one, int other) {
        argument(isMark(one) && isMark(other));
        return shared(one, other);
    }

    private int shared(int one, int other) {
        if (one == other) {
            return one;
        }
        if (isReference(one) && isReference(other)) {
            if (kinds.get(one - 10).isInterface || kinds.get(other - 10).isInterface) {
                return 10;
            }
            return below(other - 10, one - 10) ? one : shared(10 + kinds.get(one - 10).parent, other);
        }
        if (one == 4 && isReference(other)) {
            return other;
        }
        return other == 4 && isReference(one) ? one : 0;
    }

    int add(int method, int op, int a) {
        Code code = code(method);
        argument(isStep(op, a));
        state(code.steps.size() < 24);
        code.steps.add(new Step(op, a));
        return code.steps.size() - 1;
    }

    int put(int method, int place, int op, int a) {
        Code code = code(method, place);
        argument(isStep(op, a));
        return code.steps.set(place, new Step(op, a)).op;
    }

    int cut(int method) {
        Code code = code(method);
        state(!code.steps.isEmpty());
        return code.steps.remove(code.steps.size() - 1).op;
    }

    int handler(int method, int from, int to, int target, int kind) {
        Code code = code(method);
        index(hasKind(kind));
        argument(in(from, 0, 23) && from < to && to <= 24 && in(target, 0, 23));
        state(code.handlers.size() < 4);
        code.handlers.add(new Handler(from, to, target, kind));
        return code.handlers.size();
    }

    int clear(int method) {
        int before = code(method).handlers.size();
        code(method).handlers.clear();
        return before;
    }

    int map(int method, int place, int words, int locks, boolean isDone) {
        Code code = code(method);
        argument(in(place, 0, 23) && in(words, 0, 6) && in(locks, 0, 9));
        Frame frame = new Frame();
        frame.stack.addAll(Collections.nCopies(words, 0));
        frame.locks = locks;
        frame.isDone = isDone;
        code.maps.put(place, frame);
        return code.maps.size();
    }

    int word(int method, int place, int word, int mark) {
        Frame frame = code(method).maps.get(place);
        index(frame != null && in(word, 0, 5 + frame.stack.size()));
        argument(isMark(mark));
        return word < 6 ? frame.locals.set(word, mark) : frame.stack.set(word - 6, mark);
    }

    int suggest(int method) {
        Code code = code(method);
        Ways ways = new Ways(code, code.handlers);
        TreeSet<Integer> wanted = new TreeSet<>();
        for (int place = 0; place < code.steps.size(); place++) {
            Step step = code.steps.get(place);
            if (in(step.op, 14, 16)) {
                wanted.add(step.a);
            }
            if (step.op == 14 || in(step.op, 23, 27)) {
                wanted.add(place + 1);
            }
        }
        for (Handler handler : code.handlers) {
            wanted.add(handler.target);
        }
        code.maps.clear();
        for (int place : wanted) {
            Frame frame = ways.frames.get(place);
            if (frame != null && !frame.isBroken) {
                code.maps.put(place, frame.copy());
            }
        }
        return code.maps.size();
    }

    private static List<Integer> marksOf(int type) {
        if (type == -1) {
            return List.of();
        }
        return type == 1 ? List.of(2, 3) : List.of(type == 0 ? 1 : type);
    }

    private static Frame beginning(Code code) {
        Frame frame = new Frame();
        List<Integer> marks = new ArrayList<>(List.of(code.isConstructor ? 5 : 10 + code.kind));
        for (int type : code.types) {
            marks.addAll(marksOf(type));
        }
        for (int local = 0; local < marks.size(); local++) {
            frame.locals.set(local, marks.get(local));
        }
        frame.isDone = !code.isConstructor;
        return frame;
    }

    private static boolean isInRange(List<Handler> handlers, int place) {
        return handlers.stream().anyMatch(handler -> handler.from <= place && place < handler.to);
    }

    /** One instruction on one frame, with its faults. */
    final class Doing {
        final Code code;
        final List<Handler> handlers;
        final int place;
        final Frame frame;
        final TreeSet<Integer> faults = new TreeSet<>();

        Doing(Code code, List<Handler> handlers, int place, Frame before) {
            this.code = code;
            this.handlers = handlers;
            this.place = place;
            frame = before.copy();
            try {
                work(code.steps.get(place), before);
                if (frame.stack.size() > 6) {
                    throw new Overrun();
                }
            } catch (Overrun overrun) {
                faults.add(1);
                frame.isBroken = true;
            }
        }

        int fault() {
            return faults.isEmpty() ? 0 : faults.first();
        }

        private int pop() {
            if (frame.stack.isEmpty()) {
                throw new Overrun();
            }
            return frame.stack.remove(frame.stack.size() - 1);
        }

        private void expect(boolean isRight, int fault) {
            if (!isRight) {
                faults.add(fault);
            }
        }

        private void popType(int type) {
            if (type == 0) {
                expect(pop() == 1, 2);
            } else if (type == 1) {
                expect(pop() == 3, 2);
                expect(pop() == 2, 2);
            } else if (type >= 10) {
                expect(fit(pop(), type), 2);
            }
        }

        private int popReference() {
            int mark = pop();
            expect(mark == 4 || isReference(mark), 2);
            return mark;
        }

        private int popSingle() {
            int mark = pop();
            expect(mark != 0 && mark != 2 && mark != 3, 2);
            return mark;
        }

        private void popArguments(Code called) {
            for (int i = called.types.size() - 1; i >= 0; i--) {
                popType(called.types.get(i));
            }
        }

        private void store(int local, List<Integer> marks) {
            for (int i = 0; i < marks.size(); i++) {
                frame.locals.set(local + i, marks.get(i));
            }
            int behind = local + marks.size();
            if (local > 0 && frame.locals.get(local - 1) == 2) {
                frame.locals.set(local - 1, 0);
            }
            if (behind < 6 && frame.locals.get(behind) == 3) {
                frame.locals.set(behind, 0);
            }
        }

        private void work(Step step, Frame before) {
            int op = step.op;
            int a = step.a;
            if (op <= 2) {
                frame.stack.addAll(op == 2 ? List.of(4) : marksOf(op));
            } else if (op <= 5) {
                load(op, a, before);
            } else if (op == 6 || op == 7) {
                popType(op - 6);
                store(a, marksOf(op - 6));
            } else if (op == 8) {
                int mark = pop();
                boolean isRight = mark == 4 || mark == 5 || isReference(mark) || mark >= 100;
                expect(isRight, 2);
                store(a, List.of(isRight ? mark : 0));
            } else if (op <= 10) {
                popType(op - 9);
                popType(op - 9);
                frame.stack.addAll(marksOf(op - 9));
            } else if (op == 11) {
                popSingle();
            } else if (op == 12) {
                frame.stack.addAll(Collections.nCopies(2, popSingle()));
            } else if (op == 13) {
                int top = popSingle();
                int low = popSingle();
                frame.stack.addAll(List.of(top, low));
            } else if (op <= 16) {
                go(op, a, before);
            } else if (op <= 22) {
                object(op, a, before);
            } else if (op <= 26) {
                give(op);
            } else {
                popReference();
                lock(op);
            }
            if (op != 14 && !in(op, 23, 27)) {
                expect(code.has(place + 1), 4);
            }
        }

        private void load(int op, int a, Frame before) {
            int mark = before.locals.get(a);
            if (op == 3) {
                expect(mark == 1, 3);
                frame.stack.add(1);
            } else if (op == 4) {
                expect(mark == 2 && before.locals.get(a + 1) == 3, 3);
                frame.stack.addAll(List.of(2, 3));
            } else {
                boolean isRight = !in(mark, 0, 3);
                expect(isRight, 3);
                frame.stack.add(isRight ? mark : 0);
            }
        }

        private void go(int op, int a, Frame before) {
            if (op == 15) {
                popType(0);
            } else if (op == 16) {
                popReference();
            }
            expect(code.has(a), 4);
            expect(a > place || before.all().stream().noneMatch(mark -> mark == 5 || mark >= 100), 7);
        }

        private void object(int op, int a, Frame before) {
            if (op == 17) {
                int mark = 100 + place;
                expect(!before.stack.contains(mark), 7);
                frame.locals.replaceAll(local -> local == mark ? 0 : local);
                frame.stack.add(mark);
            } else if (op == 18) {
                popArguments(codes.get(a));
                init(codes.get(a).kind, pop());
            } else if (op == 19) {
                popArguments(codes.get(a));
                popType(10 + codes.get(a).kind);
                frame.stack.addAll(marksOf(codes.get(a).result));
            } else if (op == 22) {
                popReference();
                frame.stack.add(10 + a);
            } else {
                Field field = fields.get(a);
                if (op == 21) {
                    popType(field.type);
                }
                int mark = pop();
                expect(fit(mark, 10 + field.kind), 2);
                expect(isAllowed(field, mark), 6);
                if (op == 20) {
                    frame.stack.addAll(marksOf(field.type));
                }
            }
        }

        private boolean isAllowed(Field field, int mark) {
            int own = code.kind;
            if (own == field.kind || field.access == 0) {
                return true;
            }
            if (field.access == 3) {
                return false;
            }
            boolean isNear = kinds.get(own).where == kinds.get(field.kind).where;
            if (isNear || field.access == 1) {
                return isNear;
            }
            return below(own, field.kind) && fit(mark, 10 + own);
        }

        private void init(int made, int mark) {
            boolean isRight = false;
            int after = 10 + made;
            if (mark == 5) {
                isRight = made == code.kind || made == kinds.get(code.kind).parent;
                after = 10 + code.kind;
            } else if (mark >= 100 && code.has(mark - 100)) {
                isRight = code.steps.get(mark - 100).equals(new Step(17, made));
            }
            expect(isRight, 7);
            if (isRight) {
                int named = after;
                frame.locals.replaceAll(word -> word == mark ? named : word);
                frame.stack.replaceAll(word -> word == mark ? named : word);
                frame.isDone |= mark == 5;
            }
        }

        private void give(int op) {
            if (op == 23 || op == 24) {
                popType(op - 23);
                expect(code.result == op - 23, 8);
            } else if (op == 25) {
                int mark = popReference();
                expect(code.result >= 10, 8);
                expect(code.result < 10 || fit(mark, code.result), 2);
            } else {
                expect(code.result == -1, 8);
            }
            expect(!code.isConstructor || frame.isDone, 7);
            expect(frame.locks == 0, 9);
        }

        private void lock(int op) {
            if (op == 27) {
                expect(frame.locks == 0 || isInRange(handlers, place), 9);
            } else if (op == 28) {
                frame.locks++;
            } else {
                expect(frame.locks > 0, 9);
                frame.locks -= frame.locks > 0 ? 1 : 0;
            }
        }
    }

    /** By ways. */
    final class Ways {
        final Code code;
        final List<Handler> handlers;
        final TreeMap<Integer, Frame> frames = new TreeMap<>();
        final TreeMap<Integer, Integer> faults = new TreeMap<>();
        final TreeSet<Integer> unmet = new TreeSet<>();
        int rounds = 0;
        int verdict = 11;
        int place = -1;

        Ways(Code code, List<Handler> handlers) {
            this.code = code;
            this.handlers = handlers;
            if (code.steps.isEmpty()) {
                return;
            }
            frames.put(0, beginning(code));
            boolean isChanged;
            do {
                rounds++;
                isChanged = false;
                for (int at = 0; at < code.steps.size(); at++) {
                    if (frames.containsKey(at)) {
                        isChanged |= pass(at);
                    }
                }
            } while (isChanged);
            judge();
        }

        private boolean pass(int at) {
            boolean isChanged = false;
            for (Handler handler : handlers) {
                if (handler.from <= at && at < handler.to) {
                    Frame caught = frames.get(at).copy();
                    caught.stack = new ArrayList<>(List.of(10 + handler.kind));
                    isChanged |= come(handler.target, caught);
                }
            }
            Frame after = frames.get(at).copy();
            if (!after.isBroken) {
                after = new Doing(code, handlers, at, after).frame;
            }
            Step step = code.steps.get(at);
            if (step.op != 14 && !in(step.op, 23, 27)) {
                isChanged |= come(at + 1, after);
            }
            if (in(step.op, 14, 16)) {
                isChanged |= come(step.a, after);
            }
            return isChanged;
        }

        private boolean come(int at, Frame coming) {
            if (!code.has(at)) {
                return false;
            }
            Frame there = frames.get(at);
            Frame met = there == null ? coming.copy() : meet(at, there, coming);
            frames.put(at, met);
            return there == null || !there.isSame(met);
        }

        private Frame meet(int at, Frame there, Frame coming) {
            Frame met = there.copy();
            if (there.isBroken || coming.isBroken) {
                met.isBroken = true;
            } else if (there.stack.size() != coming.stack.size() || there.locks != coming.locks) {
                met.isBroken = true;
                unmet.add(at);
            } else {
                for (int i = 0; i < 6; i++) {
                    met.locals.set(i, shared(there.locals.get(i), coming.locals.get(i)));
                }
                for (int i = 0; i < met.stack.size(); i++) {
                    met.stack.set(i, shared(there.stack.get(i), coming.stack.get(i)));
                }
                met.isDone = there.isDone && coming.isDone;
            }
            return met;
        }

        private void judge() {
            verdict = 0;
            for (int at : frames.keySet()) {
                int fault = 0;
                if (unmet.contains(at)) {
                    fault = 5;
                } else if (!frames.get(at).isBroken) {
                    fault = new Doing(code, handlers, at, frames.get(at)).fault();
                }
                faults.put(at, fault);
                if (verdict == 0 && fault != 0) {
                    verdict = fault;
                    place = at;
                }
            }
            for (int at : frames.keySet()) {
                if (verdict == 0 && frames.get(at).isBroken) {
                    verdict = 1;
                    place = at;
                }
            }
        }

        int count(boolean isBroken) {
            return (int) frames.values().stream().filter(frame -> frame.isBroken == isBroken).count();
        }
    }

    private boolean suits(Frame frame, Frame map) {
        if (map == null || frame.stack.size() != map.stack.size() || frame.locks != map.locks
                || (map.isDone && !frame.isDone)) {
            return false;
        }
        for (int i = 0; i < frame.all().size(); i++) {
            if (!fit(frame.all().get(i), map.all().get(i))) {
                return false;
            }
        }
        return true;
    }

    /** By maps: the verdict and its place. */
    private int[] byMaps(Code code) {
        if (code.steps.isEmpty()) {
            return new int[] {11, -1};
        }
        Frame flow = beginning(code);
        for (int place = 0; place < code.steps.size(); place++) {
            Frame map = code.maps.get(place);
            if (map == null ? flow == null : flow != null && !suits(flow, map)) {
                return new int[] {10, place};
            }
            Frame ahead = map == null ? flow : map;
            Doing doing = new Doing(code, code.handlers, place, ahead);
            if (doing.fault() != 0) {
                return new int[] {doing.fault(), place};
            }
            Step step = code.steps.get(place);
            if (in(step.op, 14, 16) && !suits(doing.frame, code.maps.get(step.a))) {
                return new int[] {10, place};
            }
            for (Handler handler : code.handlers) {
                Frame caught = ahead.copy();
                caught.stack = new ArrayList<>(List.of(10 + handler.kind));
                if (isInRange(List.of(handler), place) && !suits(caught, code.maps.get(handler.target))) {
                    return new int[] {10, place};
                }
            }
            flow = step.op == 14 || in(step.op, 23, 27) ? null : doing.frame;
        }
        return new int[] {0, -1};
    }

    int ofMethod(int method, int what) {
        Code code = code(method);
        argument(in(what, 0, 8));
        return ofMethod(code, new Ways(code, code.handlers), byMaps(code), what);
    }

    private int ofMethod(Code code, Ways ways, int[] byMaps, int what) {
        int[] facts = {ways.verdict, ways.place, byMaps[0], byMaps[1], code.steps.size() - ways.frames.size(),
            ways.count(true), ways.rounds, code.maps.size(), code.handlers.size()};
        return facts[what];
    }

    int ofFrame(int method, int place, int what) {
        Code code = code(method, place);
        argument(in(what, 0, 4));
        return ofFrame(new Ways(code, code.handlers), place, what);
    }

    private int ofFrame(Ways ways, int place, int what) {
        Frame frame = ways.frames.get(place);
        if (frame == null) {
            return what == 0 || what == 4 ? 0 : -1;
        }
        if (frame.isBroken) {
            return new int[] {2, -1, -1, -1, ways.faults.get(place)}[what];
        }
        return new int[] {1, frame.stack.size(), frame.locks, frame.isDone ? 1 : 0, ways.faults.get(place)}[what];
    }

    int mark(int method, int place, int word) {
        Code code = code(method, place);
        Frame frame = new Ways(code, code.handlers).frames.get(place);
        index(frame != null && !frame.isBroken && in(word, 0, 5 + frame.stack.size()));
        return frame.all().get(word);
    }

    double meanWords(int method) {
        Code code = code(method);
        double sum = 0;
        int count = 0;
        for (Frame frame : new Ways(code, code.handlers).frames.values()) {
            if (!frame.isBroken) {
                sum += frame.stack.size();
                count++;
            }
        }
        return count == 0 ? 0 : sum / count;
    }

    int many(int what) {
        argument(in(what, 0, 6));
        int[] facts = {kinds.size(), fields.size(), codes.size(), 0, 0, 0, 0};
        for (Code code : codes) {
            facts[3] += code.steps.size();
            facts[4] += new Ways(code, code.handlers).verdict == 0 ? 1 : 0;
            facts[5] += byMaps(code)[0] == 0 ? 1 : 0;
            facts[6] += code.handlers.size();
        }
        return facts[what];
    }

    int verdictWith(int method, int place, int op, int a) {
        Code code = code(method, place);
        argument(isStep(op, a));
        Code other = new Code();
        other.kind = code.kind;
        other.isConstructor = code.isConstructor;
        other.types = code.types;
        other.result = code.result;
        other.steps = new ArrayList<>(code.steps);
        other.steps.set(place, new Step(op, a));
        return new Ways(other, code.handlers).verdict;
    }

    int verdictBare(int method) {
        return new Ways(code(method), List.of()).verdict;
    }

    int verdictBy(int method, int field, int access) {
        Code code = code(method);
        index(in(field, 0, fields.size() - 1));
        argument(in(access, 0, 3));
        Field before = fields.get(field);
        fields.set(field, new Field(before.kind, before.type, access));
        int verdict = new Ways(code, code.handlers).verdict;
        fields.set(field, before);
        return verdict;
    }

    static final class Thing {
        final int kind;
        int mark;
        final TreeMap<Integer, Word> contents = new TreeMap<>();

        Thing(int kind, int mark) {
            this.kind = kind;
            this.mark = mark;
        }
    }

    record Word(int mark, int number, Thing thing) {
        int markNow() {
            return thing == null ? mark : thing.mark;
        }
    }

    /** A run. */
    final class Run {
        final Code code;
        final Word[] locals = new Word[6];
        ArrayList<Word> stack = new ArrayList<>();
        int locks = 0;
        boolean isDone;
        int place = 0;
        int steps = 0;
        int given = 0;
        int thrown = -1;
        int places = 0;
        int made = 0;
        int outcome = 2;

        Run(Code code, int[] arguments) {
            this.code = code;
            isDone = !code.isConstructor;
            java.util.Arrays.fill(locals, new Word(0, 0, null));
            locals[0] = of(new Thing(code.kind, code.isConstructor ? 5 : 10 + code.kind));
            int local = 1;
            for (int i = 0; i < code.types.size(); i++) {
                int type = code.types.get(i);
                if (type < 10) {
                    for (int mark : marksOf(type)) {
                        locals[local++] = new Word(mark, arguments[i], null);
                    }
                } else {
                    locals[local++] = arguments[i] == -1 ? new Word(4, 0, null)
                            : of(new Thing(arguments[i], 10 + arguments[i]));
                }
            }
            while (outcome == 2 && steps < 200) {
                next();
            }
        }

        private Word of(Thing thing) {
            return new Word(0, 0, thing);
        }

        private Frame marks() {
            Frame frame = new Frame();
            for (int i = 0; i < 6; i++) {
                frame.locals.set(i, locals[i].markNow());
            }
            for (Word word : stack) {
                frame.stack.add(word.markNow());
            }
            frame.locks = locks;
            frame.isDone = isDone;
            return frame;
        }

        private Word pop() {
            return stack.remove(stack.size() - 1);
        }

        private Word popType(int type) {
            if (type == 1) {
                pop();
            }
            return pop();
        }

        private void pushNumber(int type, int number) {
            for (int mark : marksOf(type)) {
                stack.add(type >= 10 ? new Word(4, 0, null) : new Word(mark, number, null));
            }
        }

        private void next() {
            Step step = code.steps.get(place);
            TreeSet<Integer> faults = new Doing(code, code.handlers, place, marks()).faults;
            if (in(step.op, 14, 17)) {
                faults.remove(7);
            }
            if (!faults.isEmpty()) {
                outcome = 3;
                return;
            }
            steps++;
            places |= 1 << place;
            int before = place;
            Thing thing = work(step.op, step.a);
            if (thing != null) {
                raise(before, thing);
            } else if (outcome == 2 && place == before && !hasGone) {
                place++;
            }
            hasGone = false;
        }

        private boolean hasGone = false;

        private void go(int target) {
            place = target;
            hasGone = true;
        }

        private void raise(int at, Thing thing) {
            thrown = thing.kind;
            for (Handler handler : code.handlers) {
                if (handler.from <= at && at < handler.to && code.has(handler.target)
                        && below(thing.kind, handler.kind)) {
                    stack = new ArrayList<>(List.of(of(thing)));
                    place = handler.target;
                    return;
                }
            }
            outcome = 1;
        }

        private Thing nothing() {
            return new Thing(0, 10);
        }

        private void store(int local, List<Word> words) {
            if (local > 0 && locals[local - 1].markNow() == 2) {
                locals[local - 1] = new Word(0, 0, null);
            }
            for (Word word : words) {
                locals[local++] = word;
            }
            if (local < 6 && locals[local].markNow() == 3) {
                locals[local] = new Word(0, 0, null);
            }
        }

        /** Answers what is thrown, or null. */
        private Thing work(int op, int a) {
            if (op <= 2) {
                pushNumber(op == 2 ? 10 : op, a);
            } else if (op <= 5) {
                stack.add(locals[a]);
                if (op == 4) {
                    stack.add(locals[a + 1]);
                }
            } else if (op <= 8) {
                Word top = pop();
                store(a, op == 7 ? List.of(pop(), top) : List.of(top));
            } else if (op <= 10) {
                int one = popType(op - 9).number;
                int other = popType(op - 9).number;
                pushNumber(op - 9, one + other);
            } else if (op == 11) {
                pop();
            } else if (op == 12) {
                stack.add(stack.get(stack.size() - 1));
            } else if (op == 13) {
                Word top = pop();
                stack.add(stack.size() - 1, top);
            } else if (op <= 16) {
                if (op == 14 || (op == 15 ? pop().number == 0 : pop().thing == null)) {
                    go(a);
                }
            } else if (op <= 22) {
                return workOnObject(op, a);
            } else if (op <= 26) {
                give(op);
            } else {
                Thing thing = pop().thing;
                if (thing == null || op == 27) {
                    return thing == null ? nothing() : thing;
                }
                locks += op == 28 ? 1 : -1;
            }
            return null;
        }

        private void give(int op) {
            outcome = 0;
            if (op == 25) {
                Thing thing = pop().thing;
                given = thing == null ? -1 : thing.kind;
            } else if (op != 26) {
                given = popType(op - 23).number;
            }
        }

        private Thing workOnObject(int op, int a) {
            if (op == 17) {
                for (int i = 0; i < 6; i++) {
                    if (locals[i].markNow() == 100 + place) {
                        locals[i] = new Word(0, 0, null);
                    }
                }
                stack.add(of(new Thing(a, 100 + place)));
                made++;
                return null;
            }
            if (op == 22) {
                Thing thing = stack.get(stack.size() - 1).thing;
                return thing == null || below(thing.kind, a) ? null : nothing();
            }
            if (op <= 19) {
                List<Integer> types = codes.get(a).types;
                for (int i = types.size() - 1; i >= 0; i--) {
                    popType(types.get(i));
                }
                Thing thing = pop().thing;
                if (op == 19) {
                    pushNumber(codes.get(a).result, 0);
                    return thing == null ? nothing() : null;
                }
                isDone |= thing.mark == 5;
                thing.mark = 10 + thing.kind;
                return null;
            }
            int type = fields.get(a).type;
            Word put = op == 21 ? popType(type) : null;
            Thing thing = pop().thing;
            if (thing == null) {
                return nothing();
            }
            if (op == 21) {
                thing.contents.put(a, put);
            } else if (type >= 10 && thing.contents.containsKey(a)) {
                stack.add(thing.contents.get(a));
            } else {
                pushNumber(type, thing.contents.containsKey(a) ? thing.contents.get(a).number : 0);
            }
            return null;
        }
    }

    int run(int method, int first, int second) {
        Code code = code(method);
        int[] given = {first, second};
        for (int i = 0; i < 2; i++) {
            int type = i < code.types.size() ? code.types.get(i) : -1;
            argument(type != -1 || given[i] == 0);
            argument(type < 10 || given[i] == -1 || (isClass(given[i]) && fit(10 + given[i], type)));
        }
        state(!code.steps.isEmpty());
        Run run = new Run(code, given);
        runs++;
        lastRun = new int[] {run.outcome, run.place, run.steps, run.given, run.thrown, run.places, run.locks,
            run.made};
        return run.outcome;
    }

    int ofRun(int what) {
        argument(in(what, 0, 8));
        return what == 8 ? runs : lastRun[what];
    }

    long digest() {
        long sum = 58139;
        for (int what = 0; what <= 6; what++) {
            sum = sum * 31 + many(what);
        }
        for (Code code : codes) {
            Ways ways = new Ways(code, code.handlers);
            int[] byMaps = byMaps(code);
            for (int what = 0; what <= 8; what++) {
                sum = sum * 31 + ofMethod(code, ways, byMaps, what);
            }
            sum = sum * 31 + new Ways(code, List.of()).verdict;
            for (int place = 0; place < code.steps.size(); place++) {
                for (int what = 0; what <= 4; what++) {
                    sum = sum * 31 + ofFrame(ways, place, what);
                }
                Frame frame = ways.frames.get(place);
                if (frame != null && !frame.isBroken) {
                    for (int mark : frame.all()) {
                        sum = sum * 31 + mark;
                    }
                }
            }
        }
        for (int what = 0; what <= 8; what++) {
            sum = sum * 31 + ofRun(what);
        }
        return sum;
    }
}
