/** The edges that promises 17 to 23 name, and those of THE DISK and its CACHE in the terms; a sentence a test. */
public final class EdgeDiskTest {
    private static final Due DUE = new Due();
    private static final int UNKNOWN = StoragePath.UNKNOWN, OUTSIDE = StoragePath.OUTSIDE, NOT = StoragePath.NOT;

    public static void main(String[] args) {
        gots();
        ways();
        cuts();
        caches();
        sectors();
        cachePlaces();
        states();
        counts();
        DUE.end();
    }

    private static void gots() {
        gotOfNone();
        gotTooSmallOrTooLarge();
        gotOfAShorterRead();
        gotOnlyWithResultZero();
        gotOnlyWhenTold();
        gotOfReadsAlone();
    }

    private static void numbersAre(StoragePath x, int a, int b, int c, int d) {
        DUE.is("got(0)", x.got(0), a);
        DUE.is("got(1)", x.got(1), b);
        DUE.is("got(2)", x.got(2), c);
        DUE.is("got(3)", x.got(3), d);
    }

    private static int readAndTell(StoragePath x, int tag, int sector, int many) {
        x.read(tag, sector, many);
        x.step();
        return x.result(tag);
    }

    private static StoragePath withNumbers() {
        StoragePath x = new StoragePath();
        x.write(0, 0, 4, true, 11, 12, 13, 14);
        x.write(1, 4, 4, true, 21, 22, 23, 24);
        x.drain();
        x.result(0);
        x.result(1);
        return x;
    }

    /** 17: "0: .. there was none." */
    private static void gotOfNone() {
        numbersAre(new StoragePath(), 0, 0, 0, 0);
        numbersAre(withNumbers(), 0, 0, 0, 0);
    }

    /** 17: "Number i (0 .. 3)"; "0: it has none such" */
    private static void gotTooSmallOrTooLarge() {
        StoragePath x = withNumbers();
        DUE.is("read", readAndTell(x, 0, 0, 4), 0);
        numbersAre(x, 11, 12, 13, 14);
        for (int i : new int[] {-1, -4, 4, 5, 8, Integer.MIN_VALUE, Integer.MAX_VALUE}) {
            DUE.is("got(" + i + ")", x.got(i), 0);
        }
    }

    /** 17: "0: it has none such": no number of a longer READ is left. */
    private static void gotOfAShorterRead() {
        StoragePath x = withNumbers();
        readAndTell(x, 0, 0, 4);
        readAndTell(x, 0, 4, 3);
        numbersAre(x, 21, 22, 23, 0);
        readAndTell(x, 1, 1, 2);
        numbersAre(x, 12, 13, 0, 0);
        readAndTell(x, 1, 7, 1);
        numbersAre(x, 24, 0, 0, 0);
    }

    /** 17: "of the latest READ with RESULT 0": WIRE, BOUNDS and POWER leave what was told. */
    private static void gotOnlyWithResultZero() {
        StoragePath x = withNumbers();
        readAndTell(x, 0, 0, 2);
        DUE.is("BOUNDS", readAndTell(x, 0, 30, 3), 2);
        numbersAre(x, 11, 12, 0, 0);
        x.read(0, 4, 4);
        x.cut();
        DUE.is("POWER", x.result(0), 3);
        numbersAre(x, 11, 12, 0, 0);
        Calls.spoil(x, x.count(0) + 5, 4);
        DUE.is("WIRE at the last frame", readAndTell(x, 0, 4, 4), 1);
        numbersAre(x, 11, 12, 0, 0);
    }

    /** 17: "whose RESULT was told": not when it is done; 16: "numbers of a READ stay for got()" */
    private static void gotOnlyWhenTold() {
        StoragePath x = withNumbers();
        x.read(0, 0, 1);
        x.read(1, 4, 1);
        x.drain();
        numbersAre(x, 0, 0, 0, 0);
        x.result(1);
        numbersAre(x, 21, 0, 0, 0);
        x.result(0);
        numbersAre(x, 11, 0, 0, 0);
        x.write(0, 0, 4, true, 1, 2, 3, 4);
        x.write(1, 4, 4, false, 5, 6, 7, 8);
        numbersAre(x, 11, 0, 0, 0);
        x.drain();
        x.cut();
        numbersAre(x, 11, 0, 0, 0);
    }

    /** 17: a RESULT 0 of another kind tells no number. */
    private static void gotOfReadsAlone() {
        StoragePath x = withNumbers();
        readAndTell(x, 0, 0, 2);
        x.write(0, 9, 4, false, 1, 2, 3, 4);
        x.write(1, 9, 4, true, 5, 6, 7, 8);
        x.flush(2);
        x.drain();
        for (int tag = 0; tag < 3; tag++) {
            DUE.is("done", x.result(tag), 0);
            numbersAre(x, 11, 12, 0, 0);
        }
    }

    private static void ways() {
        wayTellsTheOneAhead();
        wayTooSmallOrTooLarge();
        wayFromNowOn();
    }

    /** 18: "WAY 0 .. 2 from now on: that which it was." */
    private static void wayTellsTheOneAhead() {
        StoragePath x = new StoragePath();
        int[] ways = {0, 2, 2, 1, 0, 1, 1, 2, 0};
        int before = 0;
        for (int way : ways) {
            DUE.is("way(" + way + ")", x.way(way), before);
            before = way;
        }
        x.way(2);
        x.cut();
        DUE.is("power leaves it", x.way(0), 2);
    }

    /** 18: "OUTSIDE" */
    private static void wayTooSmallOrTooLarge() {
        StoragePath x = new StoragePath();
        x.way(2);
        for (int way : new int[] {-1, -2, 3, 4, Integer.MIN_VALUE, Integer.MAX_VALUE}) {
            DUE.is("way(" + way + ")", x.way(way), OUTSIDE);
        }
        x.read(0, 0, 1);
        x.read(1, 1, 1);
        DUE.is("it is 2 still", x.step(), 1);
        DUE.is("way", x.way(2), 2);
    }

    /** 18: "from now on", of commands that were issued ahead of it. */
    private static void wayFromNowOn() {
        StoragePath x = new StoragePath();
        x.read(3, 9, 1);
        x.read(7, 8, 1);
        x.read(0, 5, 1);
        x.read(1, 1, 1);
        x.way(1);
        DUE.is("the least sector", x.step(), 1);
        x.way(2);
        DUE.is("the greatest tag", x.step(), 7);
        x.way(0);
        DUE.is("issued first", x.step(), 3);
    }

    private static void cuts() {
        cutOfNothing();
        cutOfAFullCache();
        cutOfAllTags();
        cutOfTagsThatAreNotIssued();
        cutLeavesTheRest();
    }

    /** 19: "how many SECTORS the CACHE had.", of none. */
    private static void cutOfNothing() {
        StoragePath x = new StoragePath();
        DUE.is("cut", x.cut(), 0);
        DUE.is("ended", x.count(6), 0);
        DUE.is("cut again", x.cut(), 0);
    }

    /** 19, of six; terms: "the CACHE is empty": what was in it is lost. */
    private static void cutOfAFullCache() {
        StoragePath x = new StoragePath();
        x.write(0, 0, 1, true, 99, 0, 0, 0);
        x.drain();
        x.result(0);
        Calls.cacheSix(x, 0);
        DUE.is("cut", x.cut(), 6);
        DUE.is("sectors of the cache", x.count(4), 0);
        DUE.is("its first place", x.cached(0), UNKNOWN);
        DUE.is("the disk's own number", x.sector(0, true), 99);
        DUE.is("none was laid", x.sector(5, true), 0);
        DUE.is("cut again", x.cut(), 0);
        Calls.cacheSix(x, 10);
        DUE.is("there is room for six", x.count(4), 6);
        DUE.is("none was laid", x.sector(10, false), 0);
    }

    /** Terms: "all COMMANDS that are ISSUED have FAILED by POWER" */
    private static void cutOfAllTags() {
        StoragePath x = new StoragePath();
        for (int tag = 0; tag < 8; tag++) {
            x.write(tag, tag, 1, tag % 2 == 0, 1, 0, 0, 0);
        }
        DUE.is("cut", x.cut(), 0);
        DUE.is("issued", x.count(5), 0);
        DUE.is("ended", x.count(6), 8);
        DUE.is("drain", x.drain(), 0);
        DUE.is("no frame is sent", x.count(0), 0);
        DUE.is("no frame has failed", x.count(2), 0);
        for (int tag = 0; tag < 8; tag++) {
            DUE.is("state", x.state(tag), 2);
            DUE.is("POWER", x.result(tag), 3);
            DUE.is("nothing was written", x.sector(tag, true), 0);
        }
    }

    /** Terms: "that are ISSUED": FREE ones stay FREE, ENDED ones have their RESULT. */
    private static void cutOfTagsThatAreNotIssued() {
        StoragePath x = new StoragePath();
        x.write(1, 5, 1, true, 55, 0, 0, 0);
        x.read(2, 5, 1);
        x.read(3, 32, 1);
        x.drain();
        x.cut();
        DUE.is("free", x.state(0), 0);
        DUE.is("free", x.result(0), NOT);
        DUE.is("done", x.result(1), 0);
        DUE.is("BOUNDS", x.result(3), 2);
        DUE.is("done", x.result(2), 0);
        DUE.is("its number", x.got(0), 55);
    }

    /** 19: nothing else is told of POWER: frames, THE DRAFT, THE PLAN and the last SECTOR stay. */
    private static void cutLeavesTheRest() {
        StoragePath x = Calls.sentWith(177, 0);
        x.draft(0);
        x.read(0, 40, 3);
        x.step();
        int sent = x.count(0);
        x.cut();
        DUE.is("sent", x.count(0), sent);
        DUE.is("with a finding", x.count(1), 1);
        DUE.is("the first finding", x.finding(sent - 1), 1);
        DUE.is("faults", x.count(3), 1);
        DUE.is("last sector", x.count(7), 42);
        DUE.is("check of the draft", x.check(), 1086693993);
        DUE.is("bits", x.count(9), 90);
    }

    private static void caches() {
        cacheOfSix();
        cacheIsFull();
        cacheHasItWhenFull();
        writtenAgainKeepsItsPlace();
        writeLaysWhatItWritesNext();
        throughOfEachPlace();
        throughWithAFullCache();
        readLeavesTheCache();
    }

    /** Terms: "a CACHE of up to 6 SECTORS .., in the order in which they came there" */
    private static void cacheOfSix() {
        StoragePath x = new StoragePath();
        int[] came = {31, 0, 7, 30, 1, 15};
        for (int i = 0; i < 6; i++) {
            Calls.cacheOne(x, came[i], i + 1);
            DUE.is("sectors of the cache", x.count(4), i + 1);
            DUE.is("none is laid", x.sector(came[0], false), 0);
        }
        DUE.same("the cache", Calls.cacheOf(x), "31 0 7 30 1 15");
    }

    /** Terms: "else, if the CACHE is full, the first one is LAID; then it comes to its end" */
    private static void cacheIsFull() {
        StoragePath x = new StoragePath();
        Calls.cacheSix(x, 10);
        Calls.cacheOne(x, 2, 70);
        DUE.same("the cache", Calls.cacheOf(x), "11 12 13 14 15 2");
        DUE.is("the first is laid", x.sector(10, false), 1);
        DUE.is("it reads so", x.sector(10, true), 1);
        DUE.is("the second is not", x.sector(11, false), 0);
        DUE.is("the new one is not", x.sector(2, false), 0);
        DUE.is("it reads so", x.sector(2, true), 70);
        Calls.cacheOne(x, 10, 80);
        DUE.same("a laid one comes to the end", Calls.cacheOf(x), "12 13 14 15 2 10");
        DUE.is("the disk has its old number", x.sector(10, false), 1);
        DUE.is("the second is laid now", x.sector(11, false), 2);
    }

    /** Terms: "if it is in the CACHE, it has the new number there": a full one lays nothing then. */
    private static void cacheHasItWhenFull() {
        for (int place = 0; place < 6; place++) {
            StoragePath x = new StoragePath();
            Calls.cacheSix(x, 10);
            Calls.cacheOne(x, 10 + place, 70);
            DUE.same("the cache", Calls.cacheOf(x), "10 11 12 13 14 15");
            DUE.is("the new number", x.sector(10 + place, true), 70);
            for (int s = 10; s < 16; s++) {
                DUE.is("none is laid", x.sector(s, false), 0);
            }
        }
    }

    /** Terms: "(its place in the order stays)": the first one is LAID first, with its new number. */
    private static void writtenAgainKeepsItsPlace() {
        StoragePath x = new StoragePath();
        Calls.cacheSix(x, 10);
        Calls.cacheOne(x, 10, 70);
        Calls.cacheOne(x, 20, 80);
        DUE.same("the cache", Calls.cacheOf(x), "11 12 13 14 15 20");
        DUE.is("laid with the new number", x.sector(10, false), 70);
    }

    /** Terms, WRITTEN sector by sector: the first lays the one that the same command writes next. */
    private static void writeLaysWhatItWritesNext() {
        StoragePath x = new StoragePath();
        Calls.cacheSix(x, 10);
        x.write(0, 9, 2, false, 90, 91, 0, 0);
        x.step();
        DUE.same("the cache", Calls.cacheOf(x), "12 13 14 15 9 10");
        DUE.is("laid with its old number", x.sector(10, false), 1);
        DUE.is("it reads as the new one", x.sector(10, true), 91);
        DUE.is("the next was laid for it", x.sector(11, false), 2);
    }

    /** Terms: "THROUGH: it leaves the CACHE, if it is there, and THE DISK has the new number." */
    private static void throughOfEachPlace() {
        String[] left = {"11 12 13 14 15", "10 12 13 14 15", "10 11 13 14 15", "10 11 12 14 15", "10 11 12 13 15",
            "10 11 12 13 14"};
        for (int place = 0; place < 6; place++) {
            StoragePath x = new StoragePath();
            Calls.cacheSix(x, 10);
            x.write(0, 10 + place, 1, true, 70, 0, 0, 0);
            x.step();
            DUE.same("the cache", Calls.cacheOf(x), left[place]);
            DUE.is("behind its end", x.cached(5), UNKNOWN);
            for (int s = 10; s < 16; s++) {
                DUE.is("on the disk", x.sector(s, false), s == 10 + place ? 70 : 0);
                DUE.is("as it reads", x.sector(s, true), s == 10 + place ? 70 : s - 9);
            }
        }
    }

    /** Terms, the same where it is not there: a full CACHE stays as it is. */
    private static void throughWithAFullCache() {
        StoragePath x = new StoragePath();
        Calls.cacheSix(x, 10);
        x.write(0, 14, 4, true, 70, 71, 72, 73);
        x.step();
        x.result(0);
        DUE.same("two of four leave it", Calls.cacheOf(x), "10 11 12 13");
        Calls.cacheOne(x, 1, 5);
        Calls.cacheOne(x, 2, 6);
        x.write(0, 20, 1, true, 74, 0, 0, 0);
        x.step();
        DUE.same("none leaves it", Calls.cacheOf(x), "10 11 12 13 1 2");
        DUE.is("the disk has it", x.sector(20, false), 74);
        DUE.is("none was laid", x.sector(10, false), 0);
    }

    /** Terms: "A SECTOR READS as in the CACHE": reading moves and lays nothing. */
    private static void readLeavesTheCache() {
        StoragePath x = new StoragePath();
        Calls.cacheSix(x, 10);
        DUE.is("done", readAndTell(x, 0, 13, 4), 0);
        numbersAre(x, 4, 5, 6, 0);
        DUE.same("the cache", Calls.cacheOf(x), "10 11 12 13 14 15");
        DUE.is("none is laid", x.sector(13, false), 0);
    }

    private static void sectors() {
        sectorAtBothEnds();
        sectorOfNoSuch();
    }

    /** 20: "A SECTOR as THE DISK has it (cached false), or as it READS." */
    private static void sectorAtBothEnds() {
        StoragePath x = new StoragePath();
        for (int s = 0; s < 32; s += 31) {
            x.write(0, s, 1, true, 100 + s, 0, 0, 0);
            x.step();
            x.result(0);
            DUE.is("on the disk", x.sector(s, false), 100 + s);
            DUE.is("as it reads", x.sector(s, true), 100 + s);
            Calls.cacheOne(x, s, -1);
            DUE.is("on the disk", x.sector(s, false), 100 + s);
            DUE.is("as it reads", x.sector(s, true), -1);
        }
    }

    /** 20: "0: UNKNOWN." */
    private static void sectorOfNoSuch() {
        StoragePath x = new StoragePath();
        x.write(0, 0, 4, true, 1, 2, 3, 4);
        x.write(1, 28, 4, false, 1, 2, 3, 4);
        x.drain();
        for (int s : new int[] {-1, -32, 32, 33, 63, 64, Integer.MIN_VALUE, Integer.MAX_VALUE}) {
            DUE.is("sector(" + s + ", false)", x.sector(s, false), 0);
            DUE.is("sector(" + s + ", true)", x.sector(s, true), 0);
        }
    }

    private static void cachePlaces() {
        cachedOfAnEmptyCache();
        cachedAtBothEnds();
    }

    /** 21: "UNKNOWN", of an empty CACHE: also of one that was not empty before. */
    private static void cachedOfAnEmptyCache() {
        StoragePath x = new StoragePath();
        DUE.is("cached(0)", x.cached(0), UNKNOWN);
        Calls.cacheSix(x, 10);
        x.flush(0);
        x.step();
        for (int i = -1; i < 8; i++) {
            DUE.is("cached(" + i + ")", x.cached(i), UNKNOWN);
        }
    }

    /** 21: "The SECTOR at place i of the CACHE (0: that which came first)." */
    private static void cachedAtBothEnds() {
        StoragePath x = new StoragePath();
        Calls.cacheOne(x, 31, 1);
        DUE.is("cached(0)", x.cached(0), 31);
        DUE.is("cached(1)", x.cached(1), UNKNOWN);
        Calls.cacheSix(x, 0);
        DUE.is("the first of six", x.cached(0), 0);
        DUE.is("the last of six", x.cached(5), 5);
        for (int i : new int[] {-1, 6, 7, Integer.MIN_VALUE, Integer.MAX_VALUE}) {
            DUE.is("cached(" + i + ")", x.cached(i), UNKNOWN);
        }
    }

    private static void states() {
        stateOfEachTag();
        stateOfNoSuchTag();
    }

    /** 22: "0 FREE, 1 ISSUED, 2 ENDED", of each tag; the others stay FREE. */
    private static void stateOfEachTag() {
        for (int tag = 0; tag < 8; tag++) {
            StoragePath x = new StoragePath();
            statesAre(x, tag, 0);
            x.flush(tag);
            statesAre(x, tag, 1);
            x.step();
            statesAre(x, tag, 2);
            x.result(tag);
            statesAre(x, tag, 0);
        }
    }

    private static void statesAre(StoragePath x, int tag, int state) {
        for (int other = 0; other < 8; other++) {
            DUE.is("state(" + other + ")", x.state(other), other == tag ? state : 0);
        }
    }

    /** 22: "UNKNOWN" */
    private static void stateOfNoSuchTag() {
        StoragePath x = new StoragePath();
        for (int tag = 0; tag < 8; tag++) {
            x.flush(tag);
        }
        for (int tag : new int[] {-1, -8, 8, 9, Integer.MIN_VALUE, Integer.MAX_VALUE}) {
            DUE.is("state(" + tag + ")", x.state(tag), UNKNOWN);
        }
    }

    private static void counts() {
        countOfNoSuch();
        countOfFrames();
        countOfFull();
        countOfTags();
        countOfTheLastSector();
        countOfBits();
    }

    /** 23: "OUTSIDE" */
    private static void countOfNoSuch() {
        StoragePath x = new StoragePath();
        DUE.is("count(0)", x.count(0), 0);
        DUE.is("count(9)", x.count(9), 0);
        for (int what : new int[] {-1, 10, 11, Integer.MIN_VALUE, Integer.MAX_VALUE}) {
            DUE.is("count(" + what + ")", x.count(what), OUTSIDE);
        }
    }

    private static void framesAre(StoragePath x, int sent, int withFinding, int failed) {
        DUE.is("count(0)", x.count(0), sent);
        DUE.is("count(1)", x.count(1), withFinding);
        DUE.is("count(2)", x.count(2), failed);
    }

    /** 23: "0 FRAMES SENT, 1 of these with a FINDING, 2 how often a FRAME to be SENT has FAILED": each try counts. */
    private static void countOfFrames() {
        StoragePath x = new StoragePath();
        framesAre(x, 0, 0, 0);
        Calls.spoil(x, 0, 8);
        Calls.sendByte(x, 1);
        framesAre(x, 1, 1, 0);
        x.flush(0);
        x.step();
        framesAre(x, 5, 5, 1);
        x.flush(1);
        x.step();
        framesAre(x, 10, 8, 1);
        Calls.spoil(x, 11, 4);
        x.flush(2);
        x.step();
        framesAre(x, 15, 12, 2);
        x.flush(3);
        x.cut();
        framesAre(x, 15, 12, 2);
    }

    /** 23: "3 FAULTS of THE PLAN, 4 SECTORS of the CACHE, .. 8 bytes of THE DRAFT": none, and full. */
    private static void countOfFull() {
        StoragePath x = new StoragePath();
        for (int i = 0; i <= 30; i++) {
            DUE.is("count(3)", x.count(3), i);
            x.plan(1000, i);
        }
        DUE.is("count(3), full", x.count(3), 30);
        for (int i = 0; i <= 12; i++) {
            DUE.is("count(8)", x.count(8), i);
            x.draft(i);
        }
        DUE.is("count(8), full", x.count(8), 12);
        for (int i = 0; i <= 6; i++) {
            DUE.is("count(4)", x.count(4), i);
            Calls.cacheOne(x, i, 1);
        }
        DUE.is("count(4), full", x.count(4), 6);
    }

    /** 23: "5 TAGS ISSUED, 6 ENDED": none, and all. */
    private static void countOfTags() {
        StoragePath x = new StoragePath();
        for (int tag = 0; tag < 8; tag++) {
            DUE.is("count(5)", x.count(5), tag);
            x.flush(tag);
        }
        for (int tag = 0; tag <= 8; tag++) {
            DUE.is("count(5)", x.count(5), 8 - tag);
            DUE.is("count(6)", x.count(6), tag);
            x.step();
        }
        for (int tag = 0; tag <= 8; tag++) {
            DUE.is("count(6)", x.count(6), 8 - tag);
            DUE.is("count(5)", x.count(5), 0);
            x.result(tag);
        }
    }

    /** 23: "7 the last SECTOR of the COMMAND taken last": whatever became of it. */
    private static void countOfTheLastSector() {
        StoragePath x = new StoragePath();
        x.read(0, 20, 4);
        DUE.is("issued is not taken", x.count(7), 0);
        x.cut();
        DUE.is("failed by power is not taken", x.count(7), 0);
        x.result(0);
        Calls.spoil(x, 0, 4);
        x.read(0, 20, 4);
        x.step();
        DUE.is("WIRE", x.count(7), 23);
        x.read(1, 63, 4);
        x.step();
        DUE.is("BOUNDS", x.count(7), 66);
        x.flush(2);
        x.step();
        DUE.is("a flush", x.count(7), 0);
        x.read(3, 0, 1);
        x.step();
        DUE.is("sector 0", x.count(7), 0);
    }

    /** 23: "9 bits of the FRAME that was SENT last": 10 a word, of 1 and 12 bytes and of each frame of commands. */
    private static void countOfBits() {
        StoragePath x = new StoragePath();
        for (int bytes = 1; bytes <= 12; bytes++) {
            for (int i = 0; i < bytes; i++) {
                x.draft(i);
            }
            x.test();
            DUE.is("bits of " + bytes, x.count(9), (bytes + 6) * 10);
        }
        x.draft(1);
        DUE.is("a draft is not sent", x.count(9), 180);
        x.flush(0);
        x.step();
        DUE.is("an answer", x.count(9), 90);
        Calls.spoil(x, x.count(0) + 1, 4);
        x.read(1, 0, 1);
        x.step();
        DUE.is("a number", x.count(9), 120);
        Calls.spoil(x, x.count(0), 4);
        x.read(2, 0, 1);
        x.step();
        DUE.is("an order", x.count(9), 110);
    }
}
