import java.util.ArrayList;
import java.util.List;
import java.util.function.Consumer;
import java.util.function.ToIntFunction;

/**
 * "Refused, and nothing changes": each refused call on objects in several states. Of two objects brought to one
 * state, one takes the refused call and the other doesn't; all that they tell then, and all that they do later,
 * must be the same.
 */
public final class RefusedTest {
    private static final Due DUE = new Due();
    private static final int NONE = StoragePath.NONE, UNKNOWN = StoragePath.UNKNOWN, OUTSIDE = StoragePath.OUTSIDE;
    private static final int NOT = StoragePath.NOT, FULL = StoragePath.FULL;
    private static final int[] NO_TAGS = {-1, 8, Integer.MIN_VALUE, Integer.MAX_VALUE};
    private static final int[][] OUTSIDE_NUMBERS = {
        {-1, 1}, {64, 1}, {0, 0}, {0, 5}, {Integer.MIN_VALUE, 4}, {Integer.MAX_VALUE, 4}, {5, Integer.MIN_VALUE}};

    private final String state;
    private final Consumer<StoragePath> callsThatLeadThere;

    private RefusedTest(String state, Consumer<StoragePath> callsThatLeadThere) {
        this.state = state;
        this.callsThatLeadThere = callsThatLeadThere;
    }

    public static void main(String[] args) {
        List<RefusedTest> states = List.of(
            new RefusedTest("new", x -> { }),
            new RefusedTest("busy", RefusedTest::makeBusy),
            new RefusedTest("full", RefusedTest::makeFull),
            new RefusedTest("ended", RefusedTest::makeEnded));
        for (RefusedTest state : states) {
            state.codeAndFrames();
            state.commands();
            state.whatIsTold();
            state.tellingChangesNothing();
        }
        states.get(0).refusedWhenNew();
        states.get(1).refusedWhenBusy();
        states.get(2).refusedWhenFull();
        states.get(3).refusedWhenEnded();
        DUE.end();
    }

    /** Tags 0 and 5 are issued, 1, 2, 3 have ended in several ways, 4, 6, 7 are free. */
    private static void makeBusy(StoragePath x) {
        Calls.sendByte(x, 1);
        x.write(1, 4, 3, false, 41, 42, 43, 0);
        x.read(2, 3, 4);
        x.read(4, 4, 2);
        x.read(3, 40, 1);
        x.drain();
        x.result(4);
        x.plan(x.count(0), 14);
        Calls.sendByte(x, 177);
        x.way(1);
        x.write(5, 5, 2, true, 51, 52, 0, 0);
        x.write(0, 6, 2, false, 61, 62, 63, 64);
        Calls.draftAll(x, 200, 100);
        x.plan(x.count(0) + 1, 3);
        x.plan(x.count(0) + 5, 77);
        x.plan(x.count(0) + 9, 1000000);
    }

    /** All tags are issued; the cache, the draft and the plan are full. */
    private static void makeFull(StoragePath x) {
        Calls.cacheSix(x, 20);
        for (int i = 0; i < 30; i++) {
            x.plan(x.count(0) + i, i);
        }
        for (int b = 0; b < 12; b++) {
            x.draft(b * 20);
        }
        x.way(2);
        for (int tag = 0; tag < 7; tag++) {
            x.write(tag, 26 + tag, 1, tag % 2 == 0, tag + 1, 0, 0, 0);
        }
        x.flush(7);
    }

    /** All tags have ended: done, on the wire, out of bounds, by power. */
    private static void makeEnded(StoragePath x) {
        Calls.cacheOne(x, 9, 99);
        x.read(3, 9, 1);
        Calls.spoil(x, x.count(0), 4);
        x.read(2, 9, 2);
        x.read(5, 31, 2);
        x.write(4, 7, 2, true, 1, 2, 0, 0);
        x.way(2);
        x.drain();
        x.flush(0);
        x.flush(7);
        x.read(1, 0, 1);
        x.write(6, 0, 1, false, 7, 0, 0, 0);
        x.cut();
    }

    private void refused(String call, ToIntFunction<StoragePath> refusedCall, int want) {
        StoragePath x = new StoragePath();
        StoragePath twin = new StoragePath();
        callsThatLeadThere.accept(x);
        callsThatLeadThere.accept(twin);
        String what = "when " + state + ", " + call;
        DUE.is(what, refusedCall.applyAsInt(x), want);
        DUE.same(what + ": told", told(x).toString(), told(twin).toString());
        DUE.same(what + ": later", later(x).toString(), later(twin).toString());
    }

    /** All that can be told without a change. */
    private static List<Integer> told(StoragePath x) {
        List<Integer> all = new ArrayList<>();
        for (int what = 0; what < 10; what++) {
            all.add(x.count(what));
        }
        for (int s = 0; s < 32; s++) {
            all.add(x.sector(s, false));
            all.add(x.sector(s, true));
        }
        for (int i = 0; i < 6; i++) {
            all.add(x.cached(i));
        }
        for (int tag = 0; tag < 8; tag++) {
            all.add(x.state(tag));
        }
        for (int i = 0; i < 4; i++) {
            all.add(x.got(i));
        }
        for (int k = 0; k < 16; k++) {
            all.add(x.finding(k));
        }
        all.add(x.check());
        return all;
    }

    /** What only later calls show: the bits sent, the plan, the way, the commands and their numbers, the draft. */
    private static List<Integer> later(StoragePath x) {
        List<Integer> all = new ArrayList<>();
        int bits = x.count(9);
        for (int i = 0; i < bits; i++) {
            all.add(x.wire(i));
        }
        for (int taken = 0; taken < 9; taken++) {
            all.add(x.step());
            all.add(x.count(0));
        }
        for (int tag = 0; tag < 8; tag++) {
            all.add(x.result(tag));
            all.add(x.got(0));
            all.add(x.got(1));
        }
        all.add(x.test());
        for (int frame = 0; frame < 6; frame++) {
            all.add(Calls.sendByte(x, 177));
        }
        all.add(x.way(0));
        all.add(x.calm());
        all.add(x.cut());
        for (int s = 0; s < 32; s++) {
            all.add(x.sector(s, true));
        }
        return all;
    }

    /** Promises 2 to 9: numbers that are not as told, in any state. */
    private void codeAndFrames() {
        for (int value : new int[] {-1, 264, Integer.MIN_VALUE, Integer.MAX_VALUE}) {
            refused("encode(" + value + ")", x -> x.encode(value, true), OUTSIDE);
        }
        for (int word : new int[] {-1, 1024, Integer.MIN_VALUE, Integer.MAX_VALUE}) {
            refused("decode(" + word + ")", x -> x.decode(word, false), OUTSIDE);
        }
        for (int b : new int[] {-1, 256, Integer.MIN_VALUE, Integer.MAX_VALUE}) {
            refused("draft(" + b + ")", x -> x.draft(b), OUTSIDE);
        }
        for (int i : new int[] {-1, 180, Integer.MIN_VALUE, Integer.MAX_VALUE}) {
            refused("wire(" + i + ")", x -> x.wire(i), UNKNOWN);
        }
        for (int k : new int[] {-1, 16, Integer.MIN_VALUE, Integer.MAX_VALUE}) {
            refused("finding(" + k + ")", x -> x.finding(k), UNKNOWN);
        }
        for (int n : new int[] {-1, 1000001, Integer.MIN_VALUE, Integer.MAX_VALUE}) {
            refused("plan(" + n + ", 0)", x -> x.plan(n, 0), OUTSIDE);
            refused("plan(0, " + n + ")", x -> x.plan(0, n), OUTSIDE);
        }
    }

    /** Promises 11 to 13, 16 and 18: no such tag, numbers that are not as told, in any state. */
    private void commands() {
        for (int tag : NO_TAGS) {
            refused("read(" + tag + ")", x -> x.read(tag, 0, 1), UNKNOWN);
            refused("read(" + tag + "), outside", x -> x.read(tag, 64, 0), UNKNOWN);
            refused("write(" + tag + ")", x -> x.write(tag, 0, 1, false, 9, 9, 9, 9), UNKNOWN);
            refused("write(" + tag + "), outside", x -> x.write(tag, -1, 5, true, 9, 9, 9, 9), UNKNOWN);
            refused("flush(" + tag + ")", x -> x.flush(tag), UNKNOWN);
            refused("result(" + tag + ")", x -> x.result(tag), UNKNOWN);
        }
        for (int t = 0; t < 8; t++) {
            int tag = t;
            for (int[] n : OUTSIDE_NUMBERS) {
                String told = "(" + tag + ", " + n[0] + ", " + n[1] + ")";
                refused("read" + told, x -> x.read(tag, n[0], n[1]), OUTSIDE);
                refused("write" + told, x -> x.write(tag, n[0], n[1], false, 9, 9, 9, 9), OUTSIDE);
                refused("through" + told, x -> x.write(tag, n[0], n[1], true, 9, 9, 9, 9), OUTSIDE);
            }
        }
        for (int way : new int[] {-1, 3, Integer.MIN_VALUE, Integer.MAX_VALUE}) {
            refused("way(" + way + ")", x -> x.way(way), OUTSIDE);
        }
    }

    /** Promises 17 and 20 to 23, in any state. */
    private void whatIsTold() {
        for (int i : new int[] {-1, 4, Integer.MIN_VALUE, Integer.MAX_VALUE}) {
            refused("got(" + i + ")", x -> x.got(i), 0);
        }
        for (int s : new int[] {-1, 32, Integer.MIN_VALUE, Integer.MAX_VALUE}) {
            refused("sector(" + s + ", false)", x -> x.sector(s, false), 0);
            refused("sector(" + s + ", true)", x -> x.sector(s, true), 0);
        }
        for (int i : new int[] {-1, 6, Integer.MIN_VALUE, Integer.MAX_VALUE}) {
            refused("cached(" + i + ")", x -> x.cached(i), UNKNOWN);
        }
        for (int tag : NO_TAGS) {
            refused("state(" + tag + ")", x -> x.state(tag), UNKNOWN);
        }
        for (int what : new int[] {-1, 10, Integer.MIN_VALUE, Integer.MAX_VALUE}) {
            refused("count(" + what + ")", x -> x.count(what), OUTSIDE);
        }
    }

    /** encode, decode, check, and a second look at all: they tell and change nothing. */
    private void tellingChangesNothing() {
        refused("encode(263)", x -> x.encode(263, true), 834);
        refused("decode(123)", x -> x.decode(123, false), 256);
        refused("decode(123), turned", x -> x.decode(123, true), NONE);
        refused("all that is told", x -> told(x).size(), 109);
    }

    private void notFree(int tag) {
        refused("read(" + tag + ")", x -> x.read(tag, 0, 4), NOT);
        refused("write(" + tag + ")", x -> x.write(tag, 0, 4, false, 9, 9, 9, 9), NOT);
        refused("through(" + tag + ")", x -> x.write(tag, 63, 1, true, 9, 9, 9, 9), NOT);
        refused("flush(" + tag + ")", x -> x.flush(tag), NOT);
    }

    private void notEnded(int tag) {
        refused("result(" + tag + ")", x -> x.result(tag), NOT);
    }

    private void refusedWhenNew() {
        refused("test()", StoragePath::test, NOT);
        refused("step()", StoragePath::step, NOT);
        refused("wire(0)", x -> x.wire(0), UNKNOWN);
        refused("finding(0)", x -> x.finding(0), UNKNOWN);
        refused("cached(0)", x -> x.cached(0), UNKNOWN);
        for (int tag = 0; tag < 8; tag++) {
            notEnded(tag);
        }
    }

    private void refusedWhenBusy() {
        for (int tag : new int[] {0, 1, 2, 3, 5}) {
            notFree(tag);
        }
        for (int tag : new int[] {0, 4, 5, 6, 7}) {
            notEnded(tag);
        }
        refused("cached(3)", x -> x.cached(3), UNKNOWN);
        refused("wire(70)", x -> x.wire(70), UNKNOWN);
    }

    private void refusedWhenFull() {
        refused("draft(0)", x -> x.draft(0), FULL);
        refused("draft(255)", x -> x.draft(255), FULL);
        refused("plan(9, 9)", x -> x.plan(9, 9), FULL);
        refused("plan(1000000, 1000000)", x -> x.plan(1000000, 1000000), FULL);
        for (int tag = 0; tag < 8; tag++) {
            notFree(tag);
            notEnded(tag);
        }
    }

    private void refusedWhenEnded() {
        refused("test()", StoragePath::test, NOT);
        refused("step()", StoragePath::step, NOT);
        refused("drain()", StoragePath::drain, 0);
        for (int tag = 0; tag < 8; tag++) {
            notFree(tag);
        }
    }
}
