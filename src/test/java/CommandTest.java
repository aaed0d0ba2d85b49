import java.util.List;

/** Promises 11 (read) to 19 (cut). */
public final class CommandTest {
    private static final Due DUE = new Due();
    private static final int UNKNOWN = StoragePath.UNKNOWN, OUTSIDE = StoragePath.OUTSIDE, NOT = StoragePath.NOT;

    public static void main(String[] args) {
        refusedInOrder();
        readsAndNumbers();
        gotKeepsTheLatestTold();
        writesGoToTheCache();
        throughGoesToTheDisk();
        flushLaysAll();
        framesOfCommands();
        bounds();
        wireFails();
        readThatFails();
        writeThatFailsHalfway();
        flushThatFailsAtTheEnd();
        framesAreSentAgain();
        wayFirstIssued();
        wayRising();
        wayRisingFromFarOut();
        wayGreatestTag();
        wayIsTold();
        drainTakesAll();
        powerGoes();
        DUE.end();
    }

    private static void refusedInOrder() {
        StoragePath x = new StoragePath();
        for (int tag : new int[] {-1, 8, Integer.MIN_VALUE, Integer.MAX_VALUE}) {
            DUE.is("read tag", x.read(tag, 64, 9), UNKNOWN);
            DUE.is("write tag", x.write(tag, 64, 9, true, 1, 2, 3, 4), UNKNOWN);
            DUE.is("flush tag", x.flush(tag), UNKNOWN);
            DUE.is("result tag", x.result(tag), UNKNOWN);
        }
        x.flush(0);
        int[][] outside = {{64, 1}, {-1, 1}, {0, 0}, {0, 5}, {0, -1}, {Integer.MAX_VALUE, 1}, {0, Integer.MIN_VALUE}};
        for (int[] o : outside) {
            for (int tag = 0; tag < 2; tag++) {
                DUE.is("read outside", x.read(tag, o[0], o[1]), OUTSIDE);
                DUE.is("write outside", x.write(tag, o[0], o[1], false, 1, 2, 3, 4), OUTSIDE);
            }
        }
        DUE.is("read, not free", x.read(0, 0, 1), NOT);
        DUE.is("write, not free", x.write(0, 0, 1, false, 1, 2, 3, 4), NOT);
        DUE.is("flush, not free", x.flush(0), NOT);
        DUE.is("result, not ended", x.result(0), NOT);
        DUE.is("result, free", x.result(1), NOT);
        DUE.is("issued", x.count(5), 1);
        x.step();
        DUE.is("read, ended", x.read(0, 0, 1), NOT);
        DUE.is("write, ended", x.write(0, 0, 1, true, 1, 2, 3, 4), NOT);
        DUE.is("flush, ended", x.flush(0), NOT);
        DUE.is("result", x.result(0), 0);
        DUE.is("read, free again", x.read(0, 63, 4), 1);
        DUE.is("write of another tag", x.write(7, 63, 4, false, 0, 0, 0, 0), 1);
        DUE.is("step", x.step(), 0);
    }

    private static void readsAndNumbers() {
        StoragePath x = new StoragePath();
        DUE.is("got ahead of all", x.got(0), 0);
        x.write(0, 5, 4, true, Integer.MIN_VALUE, -1, 7, Integer.MAX_VALUE);
        x.write(1, 6, 1, false, 66, 0, 0, 0);
        x.read(2, 5, 4);
        DUE.is("drain", x.drain(), 3);
        DUE.is("got ahead of result", x.got(0), 0);
        DUE.is("result", x.result(2), 0);
        DUE.is("got(0)", x.got(0), Integer.MIN_VALUE);
        DUE.is("got(1), from the cache", x.got(1), 66);
        DUE.is("got(2)", x.got(2), 7);
        DUE.is("got(3)", x.got(3), Integer.MAX_VALUE);
        DUE.is("got(4)", x.got(4), 0);
        DUE.is("got(-1)", x.got(-1), 0);
        x.read(2, 7, 1);
        x.step();
        DUE.is("got until the next is told", x.got(0), Integer.MIN_VALUE);
        x.result(2);
        DUE.is("got of the next", x.got(0), 7);
        DUE.is("it has no second", x.got(1), 0);
        DUE.is("it has no fourth", x.got(3), 0);
        x.write(2, 7, 1, true, 8, 8, 8, 8);
        x.step();
        x.result(2);
        DUE.is("a write leaves it", x.got(0), 7);
        DUE.is("a write leaves the rest", x.got(1), 0);
    }

    private static void gotKeepsTheLatestTold() {
        StoragePath x = new StoragePath();
        x.write(0, 1, 2, true, 11, 12, 0, 0);
        x.read(1, 1, 1);
        x.read(2, 2, 1);
        x.drain();
        x.result(2);
        DUE.is("told first", x.got(0), 12);
        x.result(1);
        DUE.is("told last", x.got(0), 11);
        x.read(3, 31, 2);
        x.step();
        DUE.is("bounds", x.result(3), 2);
        DUE.is("a read out of bounds leaves it", x.got(0), 11);
        x.read(3, 2, 1);
        x.cut();
        DUE.is("power", x.result(3), 3);
        DUE.is("a read without power leaves it", x.got(0), 11);
    }

    private static void writesGoToTheCache() {
        StoragePath x = new StoragePath();
        x.write(0, 10, 4, false, 1, 2, 3, 4);
        x.write(1, 14, 2, false, 5, 6, 99, 99);
        x.write(2, 11, 1, false, 22, 99, 99, 99);
        DUE.is("nothing ahead of step", x.count(4), 0);
        x.drain();
        places(x, 10, 11, 12, 13, 14, 15);
        DUE.is("as it reads", x.sector(11, true), 22);
        DUE.is("as the disk has it", x.sector(11, false), 0);
        x.write(3, 20, 2, false, 7, 8, 0, 0);
        x.drain();
        places(x, 12, 13, 14, 15, 20, 21);
        DUE.is("the first was laid", x.sector(10, false), 1);
        DUE.is("with its new number", x.sector(11, false), 22);
        DUE.is("the third was not", x.sector(12, false), 0);
        DUE.is("only as many as told", x.sector(16, true), 0);
        x.write(4, 10, 1, false, 9, 0, 0, 0);
        x.drain();
        places(x, 13, 14, 15, 20, 21, 10);
        DUE.is("it comes back", x.sector(10, true), 9);
        DUE.is("the disk has the old one", x.sector(10, false), 1);
    }

    private static void places(StoragePath x, int... sectors) {
        DUE.is("cache", x.count(4), sectors.length);
        for (int i = 0; i < sectors.length; i++) {
            DUE.is("cached(" + i + ")", x.cached(i), sectors[i]);
        }
        DUE.is("behind the last", x.cached(sectors.length), UNKNOWN);
    }

    private static void throughGoesToTheDisk() {
        StoragePath x = new StoragePath();
        x.write(0, 1, 3, false, 1, 2, 3, 0);
        x.write(1, 2, 1, true, 20, 0, 0, 0);
        x.drain();
        places(x, 1, 3);
        DUE.is("the disk has it", x.sector(2, false), 20);
        DUE.is("it reads so", x.sector(2, true), 20);
        DUE.is("others stay in the cache", x.sector(3, true), 3);
        DUE.is("and not on the disk", x.sector(3, false), 0);
        x.write(2, 28, 4, true, 4, 5, 6, 7);
        x.drain();
        places(x, 1, 3);
        DUE.is("the last sector", x.sector(31, false), 7);
    }

    private static void flushLaysAll() {
        StoragePath x = new StoragePath();
        x.flush(0);
        DUE.is("flush of no sector", x.step(), 0);
        DUE.is("done", x.result(0), 0);
        x.write(0, 1, 3, false, 1, 2, 3, 0);
        x.flush(1);
        x.drain();
        DUE.is("cache", x.count(4), 0);
        for (int s = 1; s < 4; s++) {
            DUE.is("sector", x.sector(s, false), s);
        }
        DUE.is("result", x.result(1), 0);
        x.cut();
        DUE.is("it stays", x.sector(3, true), 3);
    }

    /** The last frame is seen on the wire; with four faults each, the one that failed is. */
    private static void framesOfCommands() {
        lastFrame(0, 0, List.of(39, 0, 3, 30, 2));
        lastFrame(1, 0, List.of(39, 1, 3, 30, 2));
        lastFrame(2, 0, List.of(39, 2, 3, 30, 2));
        lastFrame(3, 0, List.of(39, 3, 3, 0, 0));
        lastFrame(0, 1, List.of(70, 3, 0, 0, 0, 0));
        lastFrame(1, 1, List.of(70, 3, 0x81, 0x02, 0xf3, 0x04));
        lastFrame(2, 2, List.of(70, 3, 0, 0, 0, 9));
        lastFrame(1, 3, List.of(161, 3, 0));
        lastFrame(3, 1, List.of(161, 3, 0));
        StoragePath x = new StoragePath();
        x.read(5, 32, 1);
        x.step();
        bitsAre(x, PlainPath.frameBits(List.of(161, 5, 2)), -1);
        x.result(5);
        x.read(5, 31, 1);
        x.step();
        bitsAre(x, PlainPath.frameBits(List.of(161, 5, 0)), -1);
    }

    private static void lastFrame(int kind, int at, List<Integer> payload) {
        StoragePath x = new StoragePath();
        failFrom(x, at);
        issue(x, 3, kind);
        DUE.is("step", x.step(), 3);
        DUE.is("frames", x.count(0), at + 4);
        bitsAre(x, PlainPath.frameBits(payload), 0);
        DUE.is("result", x.result(3), 1);
    }

    private static void issue(StoragePath x, int tag, int kind) {
        if (kind == 0) {
            x.read(tag, 30, 2);
        } else if (kind == 3) {
            x.flush(tag);
        } else {
            x.write(tag, 30, 2, kind == 2, 0x8102f304, 9, 8, 7);
        }
    }

    /** Bit 0 of four frames in a row is turned, so that the frame fails. */
    private static void failFrom(StoragePath x, int frame) {
        for (int i = 0; i < 4; i++) {
            x.plan(frame + i, 0);
        }
    }

    private static void bitsAre(StoragePath x, String bits, int turned) {
        DUE.is("bits", x.count(9), bits.length());
        for (int i = 0; i < bits.length(); i++) {
            int bit = bits.charAt(i) - '0';
            DUE.is("wire(" + i + ")", x.wire(i), i == turned ? 1 - bit : bit);
        }
    }

    private static void bounds() {
        StoragePath x = new StoragePath();
        x.write(0, 30, 3, false, 1, 2, 3, 0);
        x.write(1, 63, 4, true, 1, 2, 3, 4);
        x.write(2, 28, 4, false, 1, 2, 3, 4);
        DUE.is("drain", x.drain(), 3);
        DUE.is("above 31", x.result(0), 2);
        DUE.is("far above", x.result(1), 2);
        DUE.is("up to 31", x.result(2), 0);
        places(x, 28, 29, 30, 31);
        DUE.is("frames", x.count(0), 2 + 2 + 6);
        StoragePath y = new StoragePath();
        failFrom(y, 1);
        y.read(0, 32, 1);
        y.step();
        DUE.is("wire, for the answer failed", y.result(0), 1);
        DUE.is("frames", y.count(0), 5);
    }

    private static void wireFails() {
        for (int kind = 0; kind < 4; kind++) {
            StoragePath x = new StoragePath();
            x.write(0, 9, 1, false, 5, 0, 0, 0);
            x.step();
            failFrom(x, 3);
            issue(x, 3, kind);
            DUE.is("taken", x.step(), 3);
            DUE.is("state", x.state(3), 2);
            DUE.is("wire", x.result(3), 1);
            DUE.is("frames", x.count(0), 7);
            DUE.is("with a finding", x.count(1), 4);
            DUE.is("failed", x.count(2), 1);
            DUE.is("taken last", x.count(7), kind == 3 ? 0 : 31);
            places(x, 9);
            DUE.is("the disk is as it was", x.sector(30, true), 0);
        }
    }

    private static void readThatFails() {
        for (int at = 1; at <= 3; at++) {
            StoragePath x = new StoragePath();
            x.write(0, 0, 2, true, 4, 5, 0, 0);
            x.read(1, 0, 1);
            x.drain();
            x.result(1);
            failFrom(x, x.count(0) + at);
            x.read(2, 0, 2);
            x.step();
            DUE.is("wire", x.result(2), 1);
            DUE.is("numbers told before stay", x.got(0), 4);
            DUE.is("its own are not told", x.got(1), 0);
        }
    }

    private static void writeThatFailsHalfway() {
        for (int at = 1; at <= 4; at++) {
            for (int kind = 1; kind <= 2; kind++) {
                StoragePath x = new StoragePath();
                failFrom(x, at);
                x.write(0, 8, 3, kind == 2, 1, 2, 3, 4);
                x.step();
                DUE.is("wire", x.result(0), 1);
                DUE.is("frames", x.count(0), at + 4);
                for (int i = 0; i < 3; i++) {
                    int number = i < at - 1 ? i + 1 : 0;
                    DUE.is("as it reads", x.sector(8 + i, true), number);
                    DUE.is("on the disk", x.sector(8 + i, false), kind == 2 ? number : 0);
                }
                DUE.is("cache", x.count(4), kind == 2 ? 0 : Math.min(3, at - 1));
            }
        }
    }

    private static void flushThatFailsAtTheEnd() {
        StoragePath x = new StoragePath();
        x.write(0, 9, 1, false, 5, 0, 0, 0);
        x.step();
        failFrom(x, 4);
        x.flush(1);
        x.step();
        DUE.is("wire", x.result(1), 1);
        DUE.is("it is laid all the same", x.sector(9, false), 5);
        DUE.is("cache", x.count(4), 0);
    }

    private static void framesAreSentAgain() {
        StoragePath x = new StoragePath();
        for (int i = 0; i < 3; i++) {
            x.plan(i, 0);
            x.plan(4 + i, 14);
        }
        x.flush(6);
        DUE.is("step", x.step(), 6);
        DUE.is("result", x.result(6), 0);
        DUE.is("three times again, twice", x.count(0), 8);
        DUE.is("with a finding", x.count(1), 6);
        DUE.is("failed", x.count(2), 0);
        DUE.is("the latest", x.finding(0), 0);
        DUE.holds("the one ahead", x.finding(1) > 0);
        DUE.is("the fourth", x.finding(4), 0);
        DUE.is("the first", x.finding(7), 1);
    }

    private static void taken(StoragePath x, int... tags) {
        for (int tag : tags) {
            DUE.is("step", x.step(), tag);
        }
        DUE.is("step of none", x.step(), NOT);
    }

    private static void wayFirstIssued() {
        StoragePath x = new StoragePath();
        DUE.is("step of none", x.step(), NOT);
        x.read(5, 9, 1);
        x.flush(7);
        x.write(0, 1, 1, false, 0, 0, 0, 0);
        x.read(3, 0, 1);
        taken(x, 5, 7, 0, 3);
        x.result(5);
        x.result(7);
        x.read(7, 0, 1);
        x.read(5, 0, 1);
        taken(x, 7, 5);
    }

    private static void wayRising() {
        StoragePath x = new StoragePath();
        x.way(1);
        x.read(0, 40, 1);
        x.read(1, 12, 1);
        x.read(2, 10, 2);
        x.flush(3);
        x.read(4, 11, 1);
        x.read(5, 10, 1);
        x.read(6, 0, 1);
        taken(x, 3, 6, 2, 4, 1, 0, 5);
        DUE.is("taken last", x.count(7), 10);
        for (int tag = 0; tag < 8; tag++) {
            x.result(tag);
        }
        x.flush(2);
        x.read(1, 10, 1);
        x.read(0, 9, 1);
        taken(x, 1, 2, 0);
    }

    private static void wayRisingFromFarOut() {
        StoragePath x = new StoragePath();
        x.way(1);
        x.read(7, 63, 4);
        DUE.is("step", x.step(), 7);
        DUE.is("taken last", x.count(7), 66);
        x.read(6, 63, 1);
        x.read(5, 3, 1);
        x.read(4, 3, 2);
        taken(x, 4, 6, 5);
        DUE.is("taken last", x.count(7), 3);
        x.cut();
        DUE.is("power leaves it", x.count(7), 3);
    }

    private static void wayGreatestTag() {
        StoragePath x = new StoragePath();
        x.way(2);
        x.read(3, 9, 1);
        x.flush(7);
        x.read(0, 1, 1);
        x.read(5, 0, 1);
        taken(x, 7, 5, 3, 0);
    }

    private static void wayIsTold() {
        StoragePath x = new StoragePath();
        DUE.is("way(2)", x.way(2), 0);
        DUE.is("way(3)", x.way(3), OUTSIDE);
        DUE.is("way(-1)", x.way(-1), OUTSIDE);
        DUE.is("way(1)", x.way(1), 2);
        DUE.is("way(1)", x.way(1), 1);
        x.cut();
        DUE.is("way(0)", x.way(0), 1);
        x.read(5, 9, 1);
        x.read(1, 3, 1);
        x.read(6, 5, 1);
        x.way(2);
        DUE.is("from now on", x.step(), 6);
        x.way(0);
        DUE.is("from now on", x.step(), 5);
    }

    private static void drainTakesAll() {
        StoragePath x = new StoragePath();
        DUE.is("drain of none", x.drain(), 0);
        for (int tag = 7; tag >= 0; tag--) {
            x.read(tag, tag * 9, 1);
        }
        DUE.is("step", x.step(), 7);
        DUE.is("drain", x.drain(), 7);
        DUE.is("issued", x.count(5), 0);
        DUE.is("ended", x.count(6), 8);
        DUE.is("taken last", x.count(7), 0);
        for (int tag = 0; tag < 8; tag++) {
            DUE.is("result", x.result(tag), tag * 9 > 31 ? 2 : 0);
        }
        for (int tag = 7; tag >= 0; tag--) {
            x.flush(tag);
        }
        DUE.is("drain of eight", x.drain(), 8);
    }

    private static void powerGoes() {
        StoragePath x = new StoragePath();
        DUE.is("cut of nothing", x.cut(), 0);
        x.write(0, 1, 2, false, 1, 2, 0, 0);
        x.write(1, 5, 1, true, 5, 0, 0, 0);
        x.drain();
        x.write(2, 7, 1, false, 7, 0, 0, 0);
        x.flush(3);
        x.draft(1);
        x.plan(100, 1);
        int frames = x.count(0);
        DUE.is("cut", x.cut(), 2);
        DUE.is("cache", x.count(4), 0);
        DUE.is("the cache is lost", x.sector(1, true), 0);
        DUE.is("the disk stays", x.sector(5, true), 5);
        DUE.is("no frame is sent", x.count(0), frames);
        DUE.is("draft stays", x.count(8), 1);
        DUE.is("plan stays", x.count(3), 1);
        DUE.is("issued", x.count(5), 0);
        DUE.is("free stays", x.state(4), 0);
        DUE.is("none to take", x.step(), NOT);
        DUE.is("ended ones stay done", x.result(0), 0);
        DUE.is("issued ones failed", x.result(2), 3);
        DUE.is("a flush too", x.result(3), 3);
        DUE.is("cut again", x.cut(), 0);
        DUE.is("it was not written", x.sector(7, true), 0);
    }
}
