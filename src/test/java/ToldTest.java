/** Promises 1 (a new object), 20 (sector), 21 (cached), 22 (state), 23 (count). */
public final class ToldTest {
    private static final Due DUE = new Due();
    private static final int UNKNOWN = StoragePath.UNKNOWN, OUTSIDE = StoragePath.OUTSIDE;

    public static void main(String[] args) {
        constants();
        newObject();
        objectsAreApart();
        sectors();
        cachePlaces();
        states();
        counts();
        refusedCallsChangeNothing();
        DUE.end();
    }

    private static void constants() {
        DUE.is("NONE", StoragePath.NONE, -1);
        DUE.is("UNKNOWN", StoragePath.UNKNOWN, -2);
        DUE.is("OUTSIDE", StoragePath.OUTSIDE, -3);
        DUE.is("NOT", StoragePath.NOT, -4);
        DUE.is("FULL", StoragePath.FULL, -5);
    }

    private static void newObject() {
        StoragePath x = new StoragePath();
        for (int s = 0; s < 32; s++) {
            DUE.is("sector", x.sector(s, false), 0);
            DUE.is("sector as it reads", x.sector(s, true), 0);
        }
        for (int tag = 0; tag < 8; tag++) {
            DUE.is("state", x.state(tag), 0);
            DUE.is("got", x.got(tag), 0);
        }
        for (int what = 0; what < 10; what++) {
            DUE.is("count(" + what + ")", x.count(what), 0);
        }
        DUE.is("cached", x.cached(0), UNKNOWN);
        DUE.is("finding", x.finding(0), UNKNOWN);
        DUE.is("wire", x.wire(0), UNKNOWN);
        DUE.is("calm", x.calm(), 0);
        DUE.is("cut", x.cut(), 0);
        DUE.is("way", x.way(0), 0);
    }

    private static void objectsAreApart() {
        StoragePath x = new StoragePath();
        StoragePath y = new StoragePath();
        x.write(0, 0, 4, true, 1, 2, 3, 4);
        x.write(1, 4, 4, false, 1, 2, 3, 4);
        x.draft(4);
        x.plan(9, 9);
        x.drain();
        for (int what = 0; what < 10; what++) {
            DUE.is("count(" + what + ") of another", y.count(what), 0);
        }
        DUE.is("sector of another", y.sector(0, true), 0);
        DUE.is("state of another", y.state(0), 0);
    }

    private static void sectors() {
        StoragePath x = new StoragePath();
        x.write(0, 0, 1, true, -2, 0, 0, 0);
        x.write(1, 31, 1, true, -3, 0, 0, 0);
        x.write(2, 31, 1, false, 8, 0, 0, 0);
        x.drain();
        DUE.is("sector(0, false)", x.sector(0, false), -2);
        DUE.is("sector(0, true)", x.sector(0, true), -2);
        DUE.is("sector(31, false)", x.sector(31, false), -3);
        DUE.is("sector(31, true)", x.sector(31, true), 8);
        for (int s : new int[] {-1, 32, 63, 64, Integer.MIN_VALUE, Integer.MAX_VALUE}) {
            DUE.is("sector(" + s + ", false)", x.sector(s, false), 0);
            DUE.is("sector(" + s + ", true)", x.sector(s, true), 0);
        }
    }

    private static void cachePlaces() {
        StoragePath x = new StoragePath();
        x.write(0, 20, 2, false, 1, 2, 0, 0);
        x.write(1, 3, 1, false, 1, 0, 0, 0);
        x.drain();
        DUE.is("cached(0)", x.cached(0), 20);
        DUE.is("cached(1)", x.cached(1), 21);
        DUE.is("cached(2)", x.cached(2), 3);
        for (int i : new int[] {-1, 3, 6, Integer.MIN_VALUE, Integer.MAX_VALUE}) {
            DUE.is("cached(" + i + ")", x.cached(i), UNKNOWN);
        }
    }

    private static void states() {
        StoragePath x = new StoragePath();
        for (int tag : new int[] {-1, 8, Integer.MIN_VALUE, Integer.MAX_VALUE}) {
            DUE.is("state(" + tag + ")", x.state(tag), UNKNOWN);
        }
        x.flush(7);
        DUE.is("issued", x.state(7), 1);
        DUE.is("another", x.state(0), 0);
        x.step();
        DUE.is("ended", x.state(7), 2);
        x.result(7);
        DUE.is("free", x.state(7), 0);
        x.read(0, 0, 1);
        x.cut();
        DUE.is("ended by power", x.state(0), 2);
    }

    private static void counts() {
        StoragePath x = new StoragePath();
        for (int what : new int[] {-1, 10, Integer.MIN_VALUE, Integer.MAX_VALUE}) {
            DUE.is("count(" + what + ")", x.count(what), OUTSIDE);
        }
        for (int i = 0; i < 5; i++) {
            x.plan(i, 0);
        }
        x.flush(0);
        x.write(1, 30, 2, false, 1, 2, 0, 0);
        x.read(2, 4, 3);
        x.draft(1);
        x.draft(2);
        DUE.is("issued", x.count(5), 3);
        DUE.is("taken last, none", x.count(7), 0);
        x.step();
        x.step();
        DUE.is("sent", x.count(0), 4 + 5);
        DUE.is("with a finding", x.count(1), 5);
        DUE.is("failed", x.count(2), 1);
        DUE.is("faults", x.count(3), 5);
        DUE.is("cache", x.count(4), 2);
        DUE.is("issued", x.count(5), 1);
        DUE.is("ended", x.count(6), 2);
        DUE.is("taken last", x.count(7), 31);
        DUE.is("draft", x.count(8), 2);
        DUE.is("bits", x.count(9), 90);
        x.result(0);
        DUE.is("ended", x.count(6), 1);
        x.test();
        DUE.is("bits", x.count(9), 80);
        DUE.is("sent", x.count(0), 10);
        DUE.is("draft", x.count(8), 0);
    }

    private static void refusedCallsChangeNothing() {
        StoragePath x = new StoragePath();
        x.write(0, 1, 2, false, 5, 6, 0, 0);
        x.write(0, 9, 4, true, 7, 7, 7, 7);
        x.read(0, 20, 1);
        x.flush(0);
        x.read(1, 64, 1);
        x.write(8, 1, 1, true, 1, 1, 1, 1);
        x.way(7);
        x.draft(-5);
        x.plan(-1, 4);
        DUE.is("issued", x.count(5), 1);
        DUE.is("step", x.step(), 0);
        DUE.is("the first one was done", x.sector(1, true), 5);
        DUE.is("with its numbers", x.sector(2, true), 6);
        DUE.is("in the cache", x.sector(1, false), 0);
        DUE.is("no other", x.sector(9, true), 0);
        DUE.is("taken last", x.count(7), 2);
        DUE.is("draft", x.count(8), 0);
        DUE.is("plan", x.count(3), 0);
        DUE.is("way", x.way(0), 0);
    }
}
