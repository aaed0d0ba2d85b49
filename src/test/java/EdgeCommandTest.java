import java.util.List;

/** The edges that promises 11 to 16 name, and those of commands on THE WIRE in the terms; a sentence a test. */
public final class EdgeCommandTest {
    private static final Due DUE = new Due();
    private static final int UNKNOWN = StoragePath.UNKNOWN, OUTSIDE = StoragePath.OUTSIDE, NOT = StoragePath.NOT;
    private static final int[] NO_TAGS = {-1, -8, 8, 9, 16, Integer.MIN_VALUE, Integer.MAX_VALUE};
    private static final int[][] OUTSIDE_NUMBERS = {
        {-1, 1}, {64, 1}, {-64, 1}, {65, 4}, {Integer.MIN_VALUE, 1}, {Integer.MAX_VALUE, 1}, {Integer.MAX_VALUE, 4},
        {0, 0}, {0, 5}, {0, -1}, {63, 5}, {31, 0}, {0, Integer.MIN_VALUE}, {0, Integer.MAX_VALUE}, {-1, 0}, {64, 5}};

    public static void main(String[] args) {
        reads();
        writes();
        flushes();
        steps();
        orders();
        results();
        DUE.end();
    }

    private static void reads() {
        readAtBothEnds();
        readOfNoSuchTag();
        readOutside();
        readOfATagThatIsNotFree();
        readUpToTheLastSector();
        readBeyondTheLastSector();
        readFailsOnTheWire();
        readSeesTheCacheAtItsTurn();
    }

    /** 11: "A READ is ISSUED: 1."; terms: "TAGS are 0 .. 7", "a first SECTOR (0 .. 63) and how many (1 .. 4)" */
    private static void readAtBothEnds() {
        StoragePath x = new StoragePath();
        DUE.is("read(0, 0, 1)", x.read(0, 0, 1), 1);
        DUE.is("read(7, 63, 4)", x.read(7, 63, 4), 1);
        DUE.is("read(1, 63, 1)", x.read(1, 63, 1), 1);
        DUE.is("read(6, 0, 4)", x.read(6, 0, 4), 1);
        DUE.is("issued", x.count(5), 4);
        DUE.is("nothing is sent yet", x.count(0), 0);
        DUE.is("state", x.state(7), 1);
    }

    /** 11: "UNKNOWN: TAG", ahead of OUTSIDE. */
    private static void readOfNoSuchTag() {
        StoragePath x = new StoragePath();
        for (int tag : NO_TAGS) {
            DUE.is("read(" + tag + ", 0, 1)", x.read(tag, 0, 1), UNKNOWN);
            DUE.is("read(" + tag + ", 64, 1)", x.read(tag, 64, 1), UNKNOWN);
            DUE.is("read(" + tag + ", 0, 0)", x.read(tag, 0, 0), UNKNOWN);
        }
        DUE.is("issued", x.count(5), 0);
    }

    /** 11: "OUTSIDE", of a FREE tag and ahead of NOT of one that is not. */
    private static void readOutside() {
        StoragePath x = new StoragePath();
        x.flush(1);
        for (int[] n : OUTSIDE_NUMBERS) {
            DUE.is("read(0, " + n[0] + ", " + n[1] + ")", x.read(0, n[0], n[1]), OUTSIDE);
            DUE.is("read(1, " + n[0] + ", " + n[1] + ")", x.read(1, n[0], n[1]), OUTSIDE);
        }
        DUE.is("free", x.state(0), 0);
        DUE.is("issued", x.count(5), 1);
    }

    /** 11: "NOT: the TAG is not FREE.": ISSUED or ENDED. */
    private static void readOfATagThatIsNotFree() {
        StoragePath x = new StoragePath();
        x.read(3, 5, 1);
        DUE.is("issued", x.read(3, 9, 2), NOT);
        x.step();
        DUE.is("the first one was done", x.count(7), 5);
        DUE.is("ended", x.read(3, 9, 2), NOT);
        x.result(3);
        DUE.is("free again", x.read(3, 9, 2), 1);
        x.cut();
        DUE.is("ended by power", x.read(3, 9, 2), NOT);
    }

    /** Terms: "If the last SECTOR is above 31": 31 itself is not. */
    private static void readUpToTheLastSector() {
        StoragePath x = new StoragePath();
        x.write(0, 28, 4, true, 1, 2, 3, 4);
        x.drain();
        for (int many = 1; many <= 4; many++) {
            int sent = x.count(0);
            x.read(1, 32 - many, many);
            x.step();
            DUE.is("last sector", x.count(7), 31);
            DUE.is("done", x.result(1), 0);
            DUE.is("its last number", x.got(many - 1), 4);
            DUE.is("its first number", x.got(0), 5 - many);
            DUE.is("frames", x.count(0) - sent, many + 2);
        }
    }

    /** Terms: "If the last SECTOR is above 31: a FRAME 161, TAG, 2 comes back; .. BOUNDS": two frames in all. */
    private static void readBeyondTheLastSector() {
        int[][] beyond = {{32, 1}, {31, 2}, {29, 4}, {63, 1}, {63, 4}};
        for (int[] n : beyond) {
            StoragePath x = new StoragePath();
            x.read(2, n[0], n[1]);
            DUE.is("taken", x.step(), 2);
            DUE.is("last sector", x.count(7), n[0] + n[1] - 1);
            DUE.is("frames", x.count(0), 2);
            DUE.same("the answer", Calls.wireOf(x), PlainPath.frameBits(List.of(161, 2, 2)));
            DUE.is("result", x.result(2), 2);
            DUE.is("got", x.got(0), 0);
        }
    }

    /** Terms: "At the first that FAILED: WIRE, and that is all": each of the frames of a READ of four. */
    private static void readFailsOnTheWire() {
        for (int frame = 0; frame < 6; frame++) {
            StoragePath x = new StoragePath();
            Calls.spoil(x, frame, 4);
            x.read(0, 0, 4);
            DUE.is("taken", x.step(), 0);
            DUE.is("frames", x.count(0), frame + 4);
            DUE.is("failed", x.count(2), 1);
            DUE.is("last sector", x.count(7), 3);
            DUE.is("result", x.result(0), 1);
        }
    }

    /** Terms: "A SECTOR READS as in the CACHE, if it is there", when the disk takes the command, not when it is issued. */
    private static void readSeesTheCacheAtItsTurn() {
        StoragePath x = new StoragePath();
        Calls.cacheOne(x, 4, 40);
        x.read(1, 4, 1);
        x.write(2, 4, 1, false, 41, 0, 0, 0);
        x.way(2);
        x.drain();
        x.result(1);
        DUE.is("the later number", x.got(0), 41);
        x.read(3, 4, 1);
        x.step();
        x.cut();
        x.result(3);
        DUE.is("read ahead of the cut", x.got(0), 41);
        x.read(3, 4, 1);
        x.step();
        x.result(3);
        DUE.is("read behind it", x.got(0), 0);
    }

    private static void writes() {
        writeAtBothEnds();
        writeOfNoSuchTag();
        writeOutside();
        writeOfATagThatIsNotFree();
        writeOfTheFirstNumbersAlone();
        writeOfAnyNumber();
        writeUpToTheLastSector();
        writeBeyondTheLastSector();
        writeFailsOnTheWire();
    }

    /** 12: "A WRITE, or THROUGH, is ISSUED ..: 1." */
    private static void writeAtBothEnds() {
        for (boolean through : new boolean[] {false, true}) {
            StoragePath x = new StoragePath();
            DUE.is("write(0, 0, 1)", x.write(0, 0, 1, through, 1, 2, 3, 4), 1);
            DUE.is("write(7, 63, 4)", x.write(7, 63, 4, through, 1, 2, 3, 4), 1);
            DUE.is("write(1, 63, 1)", x.write(1, 63, 1, through, 1, 2, 3, 4), 1);
            DUE.is("write(6, 0, 4)", x.write(6, 0, 4, through, 1, 2, 3, 4), 1);
            DUE.is("issued", x.count(5), 4);
            DUE.is("nothing is written yet", x.sector(0, true), 0);
            DUE.is("nothing is sent yet", x.count(0), 0);
        }
    }

    /** 12: "UNKNOWN", ahead of OUTSIDE. */
    private static void writeOfNoSuchTag() {
        StoragePath x = new StoragePath();
        for (int tag : NO_TAGS) {
            DUE.is("write(" + tag + ", 0, 1)", x.write(tag, 0, 1, false, 1, 2, 3, 4), UNKNOWN);
            DUE.is("write(" + tag + ", 64, 1)", x.write(tag, 64, 1, true, 1, 2, 3, 4), UNKNOWN);
            DUE.is("write(" + tag + ", 0, 0)", x.write(tag, 0, 0, false, 1, 2, 3, 4), UNKNOWN);
        }
        DUE.is("issued", x.count(5), 0);
    }

    /** 12: "OUTSIDE", ahead of NOT. */
    private static void writeOutside() {
        StoragePath x = new StoragePath();
        x.flush(1);
        for (int[] n : OUTSIDE_NUMBERS) {
            DUE.is("write(0, " + n[0] + ", " + n[1] + ")", x.write(0, n[0], n[1], false, 1, 2, 3, 4), OUTSIDE);
            DUE.is("write(1, " + n[0] + ", " + n[1] + ")", x.write(1, n[0], n[1], true, 1, 2, 3, 4), OUTSIDE);
        }
        DUE.is("free", x.state(0), 0);
        DUE.is("issued", x.count(5), 1);
    }

    /** 12: "NOT"; the numbers, the sector and the kind of the first one stay. */
    private static void writeOfATagThatIsNotFree() {
        StoragePath x = new StoragePath();
        x.write(3, 5, 1, false, 55, 0, 0, 0);
        DUE.is("issued", x.write(3, 5, 2, true, 66, 67, 0, 0), NOT);
        x.step();
        DUE.is("the first number", x.sector(5, true), 55);
        DUE.is("the first kind", x.sector(5, false), 0);
        DUE.is("as many as at first", x.sector(6, true), 0);
        DUE.is("ended", x.write(3, 5, 2, true, 66, 67, 0, 0), NOT);
        DUE.is("result", x.result(3), 0);
        x.read(4, 5, 1);
        x.step();
        DUE.is("a read that ended", x.write(4, 0, 1, false, 77, 0, 0, 0), NOT);
        x.result(4);
        DUE.is("its number stays", x.got(0), 55);
    }

    /** 12: "(the first ones of them, as many as told)" */
    private static void writeOfTheFirstNumbersAlone() {
        for (int many = 1; many <= 4; many++) {
            for (int through = 0; through < 2; through++) {
                StoragePath x = new StoragePath();
                x.write(0, 10, many, through == 1, 1, 2, 3, 4);
                x.step();
                DUE.is("done", x.result(0), 0);
                DUE.is("frames", x.count(0), many + 2);
                DUE.is("sectors of the cache", x.count(4), through == 1 ? 0 : many);
                for (int i = 0; i < 4; i++) {
                    DUE.is("sector " + i + " of " + many, x.sector(10 + i, true), i < many ? i + 1 : 0);
                }
                DUE.is("the one ahead", x.sector(9, true), 0);
                DUE.is("the one behind", x.sector(14, true), 0);
            }
        }
    }

    /** 12: "numbers a, b, c, d"; terms: "a number of 32 bits (an int ..)": also the least and the greatest. */
    private static void writeOfAnyNumber() {
        for (boolean through : new boolean[] {false, true}) {
            StoragePath x = new StoragePath();
            x.write(0, 0, 4, through, Integer.MIN_VALUE, Integer.MAX_VALUE, -1, 0);
            x.read(1, 0, 4);
            x.drain();
            x.result(1);
            DUE.is("the least", x.got(0), Integer.MIN_VALUE);
            DUE.is("the greatest", x.got(1), Integer.MAX_VALUE);
            DUE.is("-1", x.got(2), -1);
            DUE.is("0", x.got(3), 0);
        }
    }

    /** Terms: "THE DISK has 32 SECTORS": up to 31. */
    private static void writeUpToTheLastSector() {
        for (boolean through : new boolean[] {false, true}) {
            StoragePath x = new StoragePath();
            x.write(0, 28, 4, through, 1, 2, 3, 4);
            x.write(1, 31, 1, through, 5, 0, 0, 0);
            x.drain();
            DUE.is("done", x.result(0), 0);
            DUE.is("done", x.result(1), 0);
            DUE.is("the last", x.sector(31, true), 5);
            DUE.is("the one ahead", x.sector(30, true), 3);
        }
    }

    /** Terms: ".. above 31: ..": no sector is written, not even those up to 31. */
    private static void writeBeyondTheLastSector() {
        int[][] beyond = {{32, 1}, {31, 2}, {29, 4}, {63, 4}};
        for (int[] n : beyond) {
            for (boolean through : new boolean[] {false, true}) {
                StoragePath x = new StoragePath();
                x.write(6, n[0], n[1], through, 1, 2, 3, 4);
                DUE.is("taken", x.step(), 6);
                DUE.is("frames", x.count(0), 2);
                DUE.same("the answer", Calls.wireOf(x), PlainPath.frameBits(List.of(161, 6, 2)));
                DUE.is("result", x.result(6), 2);
                DUE.is("sectors of the cache", x.count(4), 0);
                for (int s = 28; s < 32; s++) {
                    DUE.is("sector " + s, x.sector(s, true), 0);
                }
            }
        }
        StoragePath y = new StoragePath();
        Calls.spoil(y, 1, 4);
        y.write(0, 32, 1, false, 1, 0, 0, 0);
        y.step();
        DUE.is("WIRE, if that FAILED", y.result(0), 1);
        DUE.is("failed", y.count(2), 1);
    }

    /** Terms: "SECTORS ahead of it are as they are then": each of the frames of a WRITE of four. */
    private static void writeFailsOnTheWire() {
        for (int frame = 0; frame < 6; frame++) {
            for (int through = 0; through < 2; through++) {
                StoragePath x = new StoragePath();
                Calls.spoil(x, frame, 4);
                x.write(0, 4, 4, through == 1, 1, 2, 3, 4);
                DUE.is("taken", x.step(), 0);
                DUE.is("frames", x.count(0), frame + 4);
                DUE.is("result", x.result(0), 1);
                for (int i = 0; i < 4; i++) {
                    int number = i < frame - 1 ? i + 1 : 0;
                    DUE.is("as it reads", x.sector(4 + i, true), number);
                    DUE.is("on the disk", x.sector(4 + i, false), through == 1 ? number : 0);
                }
            }
        }
    }

    private static void flushes() {
        flushAtBothEnds();
        flushOfNoSuchTag();
        flushOfATagThatIsNotFree();
        flushOfAnEmptyCache();
        flushOfAFullCache();
        flushFailsOnTheWire();
    }

    /** 13: "A FLUSH is ISSUED: 1." */
    private static void flushAtBothEnds() {
        StoragePath x = new StoragePath();
        Calls.cacheOne(x, 0, 9);
        DUE.is("flush(0)", x.flush(0), 1);
        DUE.is("flush(7)", x.flush(7), 1);
        DUE.is("nothing is laid yet", x.count(4), 1);
        DUE.is("issued", x.count(5), 2);
    }

    /** 13: "UNKNOWN" */
    private static void flushOfNoSuchTag() {
        StoragePath x = new StoragePath();
        for (int tag : NO_TAGS) {
            DUE.is("flush(" + tag + ")", x.flush(tag), UNKNOWN);
        }
        DUE.is("issued", x.count(5), 0);
    }

    /** 13: "NOT"; what the tag has stays. */
    private static void flushOfATagThatIsNotFree() {
        StoragePath x = new StoragePath();
        x.write(2, 8, 1, false, 88, 0, 0, 0);
        DUE.is("issued", x.flush(2), NOT);
        x.step();
        DUE.is("it is a write still", x.sector(8, true), 88);
        DUE.is("its sector", x.count(7), 8);
        DUE.is("ended", x.flush(2), NOT);
        x.result(2);
        DUE.is("free", x.flush(2), 1);
    }

    /** Terms: "FLUSH: all of the CACHE are LAID", of none: its two frames are sent all the same. */
    private static void flushOfAnEmptyCache() {
        StoragePath x = new StoragePath();
        x.flush(7);
        DUE.is("taken", x.step(), 7);
        DUE.is("frames", x.count(0), 2);
        DUE.same("the answer", Calls.wireOf(x), PlainPath.frameBits(List.of(161, 7, 0)));
        DUE.is("result", x.result(7), 0);
        DUE.is("last sector", x.count(7), 0);
    }

    /** Terms: "all of the CACHE are LAID, in order", of six. */
    private static void flushOfAFullCache() {
        StoragePath x = new StoragePath();
        Calls.cacheSix(x, 26);
        x.flush(7);
        x.step();
        DUE.is("result", x.result(7), 0);
        DUE.is("sectors of the cache", x.count(4), 0);
        DUE.is("its first place", x.cached(0), UNKNOWN);
        for (int i = 0; i < 6; i++) {
            DUE.is("laid", x.sector(26 + i, false), i + 1);
        }
        DUE.is("cut", x.cut(), 0);
        DUE.is("it stays", x.sector(31, true), 6);
    }

    /** Terms: "If it FAILED: WIRE, and that is all", but "At last .. WIRE, if that FAILED": behind the laying. */
    private static void flushFailsOnTheWire() {
        for (int frame = 0; frame < 2; frame++) {
            StoragePath x = new StoragePath();
            Calls.cacheOne(x, 3, 33);
            Calls.spoil(x, x.count(0) + frame, 4);
            x.flush(5);
            DUE.is("taken", x.step(), 5);
            DUE.is("result", x.result(5), 1);
            DUE.is("sectors of the cache", x.count(4), 1 - frame);
            DUE.is("on the disk", x.sector(3, false), frame == 0 ? 0 : 33);
        }
    }

    private static void steps() {
        stepOfNone();
        stepTakesOne();
        drainOfNone();
        drainOfEight();
        drainWithFailures();
    }

    /** 14: "NOT: none is ISSUED.": all are FREE, or ENDED. */
    private static void stepOfNone() {
        StoragePath x = new StoragePath();
        DUE.is("all are free", x.step(), NOT);
        x.read(0, 40, 1);
        x.step();
        int sent = x.count(0);
        DUE.is("one has ended", x.step(), NOT);
        DUE.is("it stays ended", x.state(0), 2);
        DUE.is("nothing is sent", x.count(0), sent);
        DUE.is("last sector", x.count(7), 40);
        x.result(0);
        DUE.is("all are free again", x.step(), NOT);
        x.flush(1);
        x.cut();
        DUE.is("power has gone", x.step(), NOT);
    }

    /** 14: "THE DISK takes one COMMAND, which is DONE: its TAG.", 0 and 7 alike. */
    private static void stepTakesOne() {
        StoragePath x = new StoragePath();
        x.flush(7);
        x.flush(0);
        DUE.is("first", x.step(), 7);
        DUE.is("ended", x.state(7), 2);
        DUE.is("the other is issued", x.state(0), 1);
        DUE.is("second", x.step(), 0);
        DUE.is("ended", x.count(6), 2);
    }

    /** 15: "how many were taken.", of none. */
    private static void drainOfNone() {
        StoragePath x = new StoragePath();
        DUE.is("all are free", x.drain(), 0);
        x.flush(0);
        DUE.is("one", x.drain(), 1);
        DUE.is("it has ended", x.drain(), 0);
        DUE.is("frames", x.count(0), 2);
    }

    /** 15, of all tags. */
    private static void drainOfEight() {
        for (int way = 0; way <= 2; way++) {
            StoragePath x = new StoragePath();
            x.way(way);
            for (int tag = 0; tag < 8; tag++) {
                x.write(tag, tag, 1, false, tag + 1, 0, 0, 0);
            }
            DUE.is("drain", x.drain(), 8);
            DUE.is("ended", x.count(6), 8);
            DUE.is("frames", x.count(0), 24);
            DUE.is("cache", x.count(4), 6);
        }
    }

    /** 15: "until none is ISSUED": commands that fail were taken too. */
    private static void drainWithFailures() {
        StoragePath x = new StoragePath();
        Calls.spoil(x, 0, 8);
        x.read(0, 0, 1);
        x.read(1, 0, 1);
        x.read(2, 60, 4);
        x.read(3, 0, 1);
        DUE.is("drain", x.drain(), 4);
        DUE.is("failed", x.count(2), 2);
        DUE.is("wire", x.result(0), 1);
        DUE.is("wire", x.result(1), 1);
        DUE.is("bounds", x.result(2), 2);
        DUE.is("done", x.result(3), 0);
    }

    private static void orders() {
        wayZeroGoesByWhenIssued();
        wayOneTakesTheLeastThatIsNotBelow();
        wayOneGoesRound();
        wayOneOfLikeOnes();
        wayOneCountsAFlushAsZero();
        wayOneBehindSectorsAbove31();
        wayTwoTakesTheGreatestTag();
    }

    private static void taken(String what, StoragePath x, int... tags) {
        for (int tag : tags) {
            DUE.is(what, x.step(), tag);
        }
        DUE.is(what + ": none is left", x.step(), NOT);
    }

    /** Terms: "0 the one that was ISSUED first", also where a refused call came between. */
    private static void wayZeroGoesByWhenIssued() {
        StoragePath x = new StoragePath();
        x.read(7, 3, 1);
        x.read(0, 9, 1);
        x.read(7, 0, 1);
        x.read(3, 0, 1);
        taken("issued first", x, 7, 0, 3);
        x.result(7);
        x.result(0);
        x.read(0, 1, 1);
        x.read(7, 0, 1);
        taken("issued anew", x, 0, 7);
    }

    /** Terms: "1 the one with the least SECTOR that is not below the last SECTOR of the COMMAND that it took last" */
    private static void wayOneTakesTheLeastThatIsNotBelow() {
        StoragePath x = new StoragePath();
        x.way(1);
        x.read(0, 10, 3);
        x.step();
        DUE.is("last sector", x.count(7), 12);
        x.read(1, 11, 1);
        x.read(2, 13, 1);
        x.read(3, 12, 1);
        taken("12 is not below 12, 11 is", x, 3, 2, 1);
    }

    /** Terms: "(0 at first)", "else with the least SECTOR" */
    private static void wayOneGoesRound() {
        StoragePath x = new StoragePath();
        x.way(1);
        x.read(5, 1, 1);
        x.read(6, 0, 1);
        x.read(4, 20, 2);
        DUE.is("0 at first", x.step(), 6);
        taken("up", x, 5, 4);
        x.result(4);
        x.result(5);
        x.result(6);
        x.read(6, 20, 1);
        x.read(5, 3, 1);
        x.read(4, 5, 1);
        DUE.is("none is not below 21: the least", x.step(), 5);
        taken("and up again", x, 4, 6);
    }

    /** Terms: "of like ones that with the least TAG" */
    private static void wayOneOfLikeOnes() {
        StoragePath x = new StoragePath();
        x.way(1);
        x.read(7, 4, 1);
        x.read(2, 4, 4);
        x.write(5, 4, 1, true, 1, 0, 0, 0);
        DUE.is("not below: the least tag", x.step(), 2);
        DUE.is("last sector", x.count(7), 7);
        taken("below: the least tag", x, 5, 7);
    }

    /** Terms: "a FLUSH counts as SECTOR 0", "(The last SECTOR of a FLUSH is 0 ..)" */
    private static void wayOneCountsAFlushAsZero() {
        StoragePath x = new StoragePath();
        x.way(1);
        x.read(2, 0, 1);
        x.flush(1);
        x.flush(3);
        x.read(0, 1, 1);
        taken("like ones by tag", x, 1, 2, 3, 0);
        DUE.is("last sector", x.count(7), 1);
        for (int tag = 0; tag < 4; tag++) {
            x.result(tag);
        }
        x.flush(0);
        x.read(5, 63, 1);
        DUE.is("a flush is below 1", x.step(), 5);
        DUE.is("last sector", x.count(7), 63);
        x.read(6, 9, 1);
        DUE.is("then the flush", x.step(), 0);
        DUE.is("last sector of a flush", x.count(7), 0);
        taken("then up", x, 6);
    }

    /** Terms: "of others first and how many less 1, also above 31" */
    private static void wayOneBehindSectorsAbove31() {
        StoragePath x = new StoragePath();
        x.way(1);
        x.read(0, 63, 4);
        x.step();
        DUE.is("last sector", x.count(7), 66);
        x.read(1, 63, 1);
        x.read(2, 62, 1);
        DUE.is("all are below 66: the least", x.step(), 2);
        DUE.is("63 is not below 62", x.step(), 1);
        x.result(1);
        x.read(1, 0, 1);
        x.read(3, 63, 1);
        DUE.is("63 is not below 63", x.step(), 3);
        taken("then the least", x, 1);
    }

    /** Terms: "2 that with the greatest TAG" */
    private static void wayTwoTakesTheGreatestTag() {
        StoragePath x = new StoragePath();
        x.way(2);
        x.read(0, 0, 1);
        x.flush(6);
        x.read(7, 63, 1);
        x.read(1, 0, 1);
        taken("greatest", x, 7, 6, 1, 0);
    }

    private static void results() {
        resultOfNoSuchTag();
        resultOfATagThatHasNotEnded();
        resultOfEachKind();
        resultIsToldOnce();
    }

    /** 16: "UNKNOWN" */
    private static void resultOfNoSuchTag() {
        StoragePath x = new StoragePath();
        for (int tag : NO_TAGS) {
            DUE.is("result(" + tag + ")", x.result(tag), UNKNOWN);
        }
    }

    /** 16: "NOT": FREE, or ISSUED, which it stays. */
    private static void resultOfATagThatHasNotEnded() {
        StoragePath x = new StoragePath();
        for (int tag = 0; tag < 8; tag++) {
            DUE.is("free", x.result(tag), NOT);
            x.read(tag, 0, 1);
            DUE.is("issued", x.result(tag), NOT);
            DUE.is("it stays issued", x.state(tag), 1);
        }
        DUE.is("all are taken", x.drain(), 8);
    }

    /** 16: "0 .. 3", of tags 0 and 7 alike. */
    private static void resultOfEachKind() {
        for (int tag = 0; tag < 8; tag += 7) {
            StoragePath x = new StoragePath();
            Calls.spoil(x, 0, 4);
            x.read(tag, 0, 1);
            x.step();
            DUE.is("WIRE", x.result(tag), 1);
            x.read(tag, 31, 2);
            x.step();
            DUE.is("BOUNDS", x.result(tag), 2);
            x.read(tag, 31, 1);
            x.cut();
            DUE.is("POWER", x.result(tag), 3);
            x.read(tag, 31, 1);
            x.step();
            DUE.is("done", x.result(tag), 0);
        }
    }

    /** 16: "which is FREE then" */
    private static void resultIsToldOnce() {
        StoragePath x = new StoragePath();
        x.flush(0);
        x.flush(7);
        x.drain();
        DUE.is("result", x.result(7), 0);
        DUE.is("free", x.state(7), 0);
        DUE.is("told already", x.result(7), NOT);
        DUE.is("the other stays ended", x.state(0), 2);
        DUE.is("ended", x.count(6), 1);
        DUE.is("result", x.result(0), 0);
    }
}
