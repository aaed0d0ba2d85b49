/** The edges that promises 4 to 10 name, and those of FRAMES and THE PLAN in the terms; a sentence a test. */
public final class EdgeFrameTest {
    private static final Due DUE = new Due();
    private static final int UNKNOWN = StoragePath.UNKNOWN, OUTSIDE = StoragePath.OUTSIDE;
    private static final int NOT = StoragePath.NOT, FULL = StoragePath.FULL;
    /** THE SCRAMBLE of the longest frame, worked out from the terms by another program. */
    private static final int[] SCRAMBLE = {177, 110, 75, 67, 22, 205, 100, 248, 54, 194, 16, 165, 42, 203, 74, 44};
    /** The frame of the byte 177, the first of THE SCRAMBLE: its first even word is number 0. */
    private static final String OF_177 = Calls.bitsOf(123, 31, 611, 454, 454, 709, 898);
    /** The frame of the byte 77, which goes as 252: there is an odd number of uneven words in it. */
    private static final String OF_77 = Calls.bitsOf(123, 960, 217, 779, 155, 841, 125);

    public static void main(String[] args) {
        drafts();
        checks();
        payloads();
        findingsOfTheFirstWord();
        findingsOfWordsInside();
        findingsOfTheLastWord();
        findingsInTheirOrder();
        tests();
        wires();
        findingsFromTheEnd();
        plans();
        faults();
        calms();
        DUE.end();
    }

    private static void drafts() {
        draftOfTheLeastAndTheGreatest();
        draftTooSmallOrTooLarge();
        draftFull();
        draftOutsideAheadOfFull();
        draftStaysOverCommands();
    }

    /** 4: "A byte more (0 .. 255) of THE DRAFT of a PAYLOAD: how many." */
    private static void draftOfTheLeastAndTheGreatest() {
        StoragePath x = new StoragePath();
        DUE.is("draft(0)", x.draft(0), 1);
        DUE.is("draft(255)", x.draft(255), 2);
        DUE.is("count(8)", x.count(8), 2);
    }

    /** 4: "OUTSIDE" */
    private static void draftTooSmallOrTooLarge() {
        StoragePath x = new StoragePath();
        x.draft(7);
        int check = x.check();
        for (int b : new int[] {-1, -256, 256, 263, 511, Integer.MIN_VALUE, Integer.MAX_VALUE}) {
            DUE.is("draft(" + b + ")", x.draft(b), OUTSIDE);
            DUE.is("how many stay", x.count(8), 1);
            DUE.is("the draft stays", x.check(), check);
        }
        DUE.is("the next one", x.draft(8), 2);
    }

    /** 4: "FULL: 12" */
    private static void draftFull() {
        StoragePath x = new StoragePath();
        for (int i = 1; i <= 12; i++) {
            DUE.is("draft no. " + i, x.draft(255), i);
        }
        for (int i = 0; i < 3; i++) {
            DUE.is("draft no. 13", x.draft(i), FULL);
            DUE.is("twelve stay", x.count(8), 12);
            DUE.is("the draft stays", x.check(), 324249061);
        }
        DUE.is("it is sent", x.test(), 0);
        DUE.is("then there is room", x.draft(0), 1);
    }

    /** Terms: "the first of these that fits": OUTSIDE stands ahead of FULL. */
    private static void draftOutsideAheadOfFull() {
        StoragePath x = new StoragePath();
        Calls.draftAll(x, 1, 2, 3, 4, 5, 6, 7, 8, 9, 10, 11, 12);
        DUE.is("draft(256)", x.draft(256), OUTSIDE);
        DUE.is("draft(-1)", x.draft(-1), OUTSIDE);
        DUE.is("draft(255)", x.draft(255), FULL);
    }

    /** 6 alone empties THE DRAFT: frames of commands leave it. */
    private static void draftStaysOverCommands() {
        StoragePath x = new StoragePath();
        Calls.draftAll(x, 0);
        x.write(0, 0, 4, false, 1, 2, 3, 4);
        x.flush(1);
        x.drain();
        x.cut();
        x.calm();
        DUE.is("how many", x.count(8), 1);
        DUE.is("check", x.check(), 1086693993);
    }

    private static void checks() {
        checkOfTheEmptyDraft();
        checkAsAnInt();
        checkOfTheFullDraft();
    }

    /** 5: "CHECK of THE DRAFT"; terms: "c is 1378996274", and no byte changes it. */
    private static void checkOfTheEmptyDraft() {
        StoragePath x = new StoragePath();
        DUE.is("check at first", x.check(), 1378996274);
        Calls.sendByte(x, 5);
        DUE.is("check behind a test", x.check(), 1378996274);
    }

    /** 5: "as an int": below 0 where the highest of the 32 bits is 1. */
    private static void checkAsAnInt() {
        StoragePath x = new StoragePath();
        x.draft(255);
        DUE.is("check of 255", x.check(), -248323363);
        StoragePath y = new StoragePath();
        y.draft(0);
        DUE.is("check of 0", y.check(), 1086693993);
    }

    /** 5, of a DRAFT that is full; asking again answers the same. */
    private static void checkOfTheFullDraft() {
        StoragePath x = new StoragePath();
        for (int i = 0; i < 12; i++) {
            x.draft(0);
        }
        DUE.is("check", x.check(), -1261463578);
        DUE.is("check again", x.check(), -1261463578);
        DUE.is("the draft stays", x.count(8), 12);
        DUE.is("nothing is sent", x.count(0), 0);
    }

    private static void payloads() {
        payloadOfOne();
        payloadOfTwelve();
        disparityTurnsBehindEachUnevenWord();
        disparityIsLackAtFirst();
    }

    /** Terms: "A FRAME has a PAYLOAD of 1 to 12 bytes": the least, every word of it. */
    private static void payloadOfOne() {
        StoragePath x = new StoragePath();
        DUE.is("finding", Calls.sendByte(x, 0), 0);
        DUE.is("bits", x.count(9), 70);
        DUE.same("the wire", Calls.wireOf(x), Calls.bitsOf(123, 689, 227, 587, 856, 535, 898));
    }

    /** Terms: "A FRAME has a PAYLOAD of 1 to 12 bytes": the longest, with all of THE SCRAMBLE. */
    private static void payloadOfTwelve() {
        StoragePath x = new StoragePath();
        for (int i = 0; i < 12; i++) {
            x.draft(SCRAMBLE[i]);
        }
        DUE.is("finding", x.test(), 0);
        DUE.is("bits", x.count(9), 180);
        DUE.same("the wire", Calls.wireOf(x),
            Calls.bitsOf(123, 31, 31, 31, 31, 31, 31, 31, 31, 31, 31, 31, 31, 849, 230, 453, 395, 898));
        DUE.is("its last bit", x.wire(179), 0);
        DUE.is("behind it", x.wire(180), UNKNOWN);
    }

    /** Terms: "behind each UNEVEN WORD the other one": twelve uneven bytes in a row. */
    private static void disparityTurnsBehindEachUnevenWord() {
        StoragePath x = new StoragePath();
        for (int i = 0; i < 12; i++) {
            x.draft(SCRAMBLE[i] ^ 255);
        }
        DUE.is("finding", x.test(), 0);
        DUE.same("the wire", Calls.wireOf(x), Calls.bitsOf(123, 904, 119, 904, 119, 904, 119, 904, 119, 904, 119,
            904, 119, 481, 677, 309, 403, 898));
    }

    /** Terms: "DISPARITY is LACK at first", of each frame, also behind one that ended by EXCESS. */
    private static void disparityIsLackAtFirst() {
        StoragePath x = new StoragePath();
        DUE.is("a frame with three uneven words", Calls.sendByte(x, 77), 0);
        DUE.same("the wire", Calls.wireOf(x), OF_77);
        DUE.is("the one behind it", Calls.sendByte(x, 177), 0);
        DUE.same("the wire", Calls.wireOf(x), OF_177);
    }

    private static void found(String what, int want, int... turnedBits) {
        DUE.is(what, Calls.sentWith(177, turnedBits).finding(0), want);
    }

    /** Terms, FINDINGS 1, 2 and 3 "the first WORD is not SIGN 0". It is 0001111011. */
    private static void findingsOfTheFirstWord() {
        found("as it was", 0);
        found("WORD: seven ones", 1, 0);
        found("WORD: four ones, of no excess", 1, 3, 4);
        found("WORD: the thirteenth with six ones", 1, 2, 3, 7, 9);
        found("TURN: sign 0 by excess", 2, 0, 1, 2, 3, 4, 5, 6, 7, 8, 9);
        found("TURN: byte 252 by excess", 2, 0, 1, 2, 4, 5, 6, 8, 9);
        found("SIGN: an even word", 3, 3);
        found("SIGN: byte 255 by lack", 3, 6, 7);
        found("SIGN: sign 1 by lack", 3, 7, 8);
        found("SIGN: sign 7 by lack", 3, 2, 3, 7, 8);
    }

    /** Terms, FINDINGS 1, 2, 4 of words that are neither first nor last, and 3 "another one is a SIGN". */
    private static void findingsOfWordsInside() {
        found("WORD: three ones in the payload", 1, 15, 16);
        found("WORD: four ones, of no excess", 1, 15);
        found("TURN: 252 by lack where excess is due", 2, 14);
        found("SIGN: sign 0 by excess", 3, 10, 11, 12, 15, 16, 18, 19);
        found("SIGN: sign 7 by excess", 3, 10, 11, 13, 15, 16, 17, 19);
        found("CHECK: another byte of the payload", 4, 14, 15);
        found("CHECK: another first byte of the check", 4, 20, 21);
        found("CHECK: another last byte of the check", 4, 50, 51);
        // 1111000000 is 252 by excess: it is fine there, but turns the receiver's disparity for good
        found("TURN, as the receiver has it", 2, 10, 11, 12, 13, 15, 16, 17, 18, 19);
    }

    /** Terms, FINDINGS 1, 2 and 3 "the last not SIGN 1". It is 1110000010, by excess. */
    private static void findingsOfTheLastWord() {
        found("WORD: three ones", 1, 60);
        found("WORD: six ones, of no lack", 1, 63, 64);
        found("TURN: sign 1 by lack", 2, 60, 61, 62, 63, 64, 65, 66, 67, 68, 69);
        found("SIGN: an even word", 3, 69);
        found("SIGN: sign 0 by excess", 3, 67, 68);
        found("SIGN: byte 252 by excess", 3, 63, 68);
        DUE.is("by lack, if that is due", Calls.sentWith(77).finding(0), 0);
        DUE.is("TURN: sign 1 by excess, where lack is due",
            Calls.sentWith(77, 60, 61, 62, 63, 64, 65, 66, 67, 68, 69).finding(0), 2);
    }

    /** Terms: "the FINDING is that of the first WORD that has one, there the first of these", "Then 4 CHECK" */
    private static void findingsInTheirOrder() {
        found("SIGN of the first word ahead of WORD of the next", 3, 3, 15, 16);
        found("TURN inside ahead of WORD behind it", 2, 14, 20);
        found("WORD inside ahead of SIGN of the last", 1, 15, 16, 69);
        found("SIGN of the last ahead of CHECK", 3, 14, 15, 69);
        found("TURN ahead of SIGN in the first word: sign 1 by excess", 2, 0, 1, 2, 3, 4, 5, 6, 9);
        found("TURN ahead of SIGN inside: sign 0 by lack", 2, 13, 14, 17);
        found("TURN ahead of SIGN in the last word: sign 0 by lack", 2, 60, 61, 62, 63, 64, 65, 66, 69);
    }

    private static void tests() {
        testOfNothing();
        testIsSentOnce();
        testEmptiesTheDraft();
        testIsNumberedLikeAll();
    }

    /** 6: "NOT: it is empty." */
    private static void testOfNothing() {
        StoragePath x = new StoragePath();
        DUE.is("test at first", x.test(), NOT);
        DUE.is("nothing is sent", x.count(0), 0);
        DUE.is("no bit", x.wire(0), UNKNOWN);
        Calls.sendByte(x, 177);
        DUE.is("test again", x.test(), NOT);
        DUE.is("nothing more is sent", x.count(0), 1);
        DUE.is("no finding more", x.finding(1), UNKNOWN);
        DUE.same("the wire", Calls.wireOf(x), OF_177);
    }

    /** 6: "SENT as a FRAME once": a finding does not send it again, and no frame has FAILED. */
    private static void testIsSentOnce() {
        StoragePath x = Calls.sentWith(177, 0);
        DUE.is("finding", x.finding(0), 1);
        DUE.is("sent", x.count(0), 1);
        DUE.is("with a finding", x.count(1), 1);
        DUE.is("failed", x.count(2), 0);
    }

    /** 6: "and is empty then", also with a finding. */
    private static void testEmptiesTheDraft() {
        for (int turned = 0; turned < 2; turned++) {
            StoragePath x = turned == 0 ? Calls.sentWith(177) : Calls.sentWith(177, 0);
            DUE.is("finding", x.finding(0), turned);
            DUE.is("bytes", x.count(8), 0);
            DUE.is("check", x.check(), 1378996274);
            DUE.is("test", x.test(), NOT);
        }
    }

    /** Terms: "FRAMES SENT are numbered from 0, each time anew", those of test() and of commands alike. */
    private static void testIsNumberedLikeAll() {
        StoragePath x = new StoragePath();
        x.plan(3, 0);
        DUE.is("number 0", Calls.sendByte(x, 177), 0);
        x.flush(0);
        x.step();
        DUE.is("numbers 1 and 2 had no finding", x.count(1), 0);
        DUE.is("number 3", Calls.sendByte(x, 177), 1);
        DUE.is("number 4", Calls.sendByte(x, 177), 0);
    }

    private static void wires() {
        wireTooSmallOrTooLarge();
        wireOfAShorterFrame();
        wireBehindFaults();
        wireOfTheLastTry();
    }

    /** 7: "UNKNOWN" (no such bit) */
    private static void wireTooSmallOrTooLarge() {
        StoragePath x = new StoragePath();
        DUE.is("wire(0) ahead of all frames", x.wire(0), UNKNOWN);
        DUE.is("wire(-1) ahead of all frames", x.wire(-1), UNKNOWN);
        Calls.sendByte(x, 77);
        DUE.is("the first", x.wire(0), 0);
        DUE.is("the last", x.wire(69), 1);
        for (int i : new int[] {-1, -70, 70, 71, 179, 180, Integer.MIN_VALUE, Integer.MAX_VALUE}) {
            DUE.is("wire(" + i + ")", x.wire(i), UNKNOWN);
        }
    }

    /** 7: "of the FRAME that was SENT last": no bit of a longer one ahead of it is left. */
    private static void wireOfAShorterFrame() {
        StoragePath x = new StoragePath();
        Calls.draftAll(x, 255, 255, 255, 255, 255, 255, 255, 255, 255, 255, 255, 255);
        x.test();
        DUE.holds("bit 179", x.wire(179) >= 0);
        Calls.sendByte(x, 177);
        DUE.is("bits", x.count(9), 70);
        for (int i = 70; i < 182; i++) {
            DUE.is("wire(" + i + ")", x.wire(i), UNKNOWN);
        }
        DUE.same("the wire", Calls.wireOf(x), OF_177);
    }

    /** 7: "as it came on THE WIRE behind FAULTS", at both ends. */
    private static void wireBehindFaults() {
        DUE.same("the first bit", Calls.wireOf(Calls.sentWith(177, 0)), Calls.turnedAt(OF_177, 0));
        DUE.same("the last bit", Calls.wireOf(Calls.sentWith(177, 69)), Calls.turnedAt(OF_177, 69));
        StoragePath x = Calls.sentWith(177, 0);
        x.calm();
        DUE.is("calm comes too late for it", x.wire(0), 1);
    }

    /** 7: a frame that is sent again is the last one each time. */
    private static void wireOfTheLastTry() {
        StoragePath x = new StoragePath();
        Calls.spoil(x, 1, 3);
        x.flush(0);
        x.step();
        DUE.is("the fourth try", x.wire(0), 0);
        Calls.spoil(x, x.count(0), 4);
        x.flush(1);
        x.step();
        DUE.is("the one that failed", x.wire(0), 1);
        DUE.is("the order was it", x.count(9), 110);
    }

    private static void findingsFromTheEnd() {
        findingAheadOfTheFirst();
        findingOfTheSixteenth();
        findingsGoRound();
        findingTooSmallOrTooLarge();
    }

    /** 8: "FRAME number k from the end of those SENT": UNKNOWN ahead of the first. */
    private static void findingAheadOfTheFirst() {
        StoragePath x = new StoragePath();
        DUE.is("finding(0) of none", x.finding(0), UNKNOWN);
        x.plan(0, 0);
        for (int sent = 1; sent <= 16; sent++) {
            Calls.sendByte(x, 177);
            DUE.is("the first of " + sent, x.finding(sent - 1), 1);
            DUE.is("ahead of it", x.finding(sent), UNKNOWN);
        }
    }

    /** 8: "0: the latest, .. 15": the sixteenth from the end is told, the seventeenth is not. */
    private static void findingOfTheSixteenth() {
        StoragePath x = new StoragePath();
        x.plan(0, 3);
        x.plan(1, 0);
        for (int sent = 0; sent < 17; sent++) {
            Calls.sendByte(x, 177);
        }
        DUE.is("finding(15)", x.finding(15), 1);
        DUE.is("finding(16)", x.finding(16), UNKNOWN);
        DUE.is("finding(17)", x.finding(17), UNKNOWN);
        DUE.is("finding(0)", x.finding(0), 0);
    }

    /** 8, far behind the sixteenth frame: 40 frames, each fifth of which has a finding. */
    private static void findingsGoRound() {
        StoragePath x = new StoragePath();
        for (int f = 0; f < 40; f += 5) {
            x.plan(f, 14);
        }
        for (int sent = 1; sent <= 40; sent++) {
            Calls.sendByte(x, 177);
            DUE.is("the latest", x.finding(0), sent % 5 == 1 ? 2 : 0);
        }
        for (int k = 0; k < 16; k++) {
            DUE.is("finding(" + k + ")", x.finding(k), (39 - k) % 5 == 0 ? 2 : 0);
        }
    }

    /** 8: "UNKNOWN" */
    private static void findingTooSmallOrTooLarge() {
        StoragePath x = new StoragePath();
        Calls.sendByte(x, 177);
        for (int k : new int[] {-1, -16, 1, 15, 16, 17, Integer.MIN_VALUE, Integer.MAX_VALUE}) {
            DUE.is("finding(" + k + ")", x.finding(k), UNKNOWN);
        }
    }

    private static void plans() {
        planOfTheLeastAndTheGreatest();
        planTooSmallOrTooLarge();
        planFull();
        planOfFramesSentAlready();
    }

    /** 9: "f, b 0 .. 1000000" */
    private static void planOfTheLeastAndTheGreatest() {
        StoragePath x = new StoragePath();
        DUE.is("plan(0, 0)", x.plan(0, 0), 1);
        DUE.is("plan(1000000, 0)", x.plan(1000000, 0), 2);
        DUE.is("plan(0, 1000000)", x.plan(0, 1000000), 3);
        DUE.is("plan(1000000, 1000000)", x.plan(1000000, 1000000), 4);
        DUE.is("the same again is one more", x.plan(0, 0), 5);
        DUE.is("count(3)", x.count(3), 5);
    }

    /** 9: "OUTSIDE" */
    private static void planTooSmallOrTooLarge() {
        StoragePath x = new StoragePath();
        for (int n : new int[] {-1, 1000001, Integer.MIN_VALUE, Integer.MAX_VALUE}) {
            DUE.is("plan(" + n + ", 0)", x.plan(n, 0), OUTSIDE);
            DUE.is("plan(0, " + n + ")", x.plan(0, n), OUTSIDE);
            DUE.is("plan(" + n + ", " + n + ")", x.plan(n, n), OUTSIDE);
        }
        DUE.is("count(3)", x.count(3), 0);
        DUE.is("no bit is turned", Calls.sendByte(x, 177), 0);
    }

    /** 9: "FULL"; terms: "30 at most", OUTSIDE stands ahead of it. */
    private static void planFull() {
        StoragePath x = new StoragePath();
        for (int i = 1; i <= 30; i++) {
            DUE.is("plan no. " + i, x.plan(i, 0), i);
        }
        DUE.is("plan no. 31", x.plan(0, 0), FULL);
        DUE.is("again", x.plan(1000000, 1000000), FULL);
        DUE.is("outside", x.plan(0, -1), OUTSIDE);
        DUE.is("outside", x.plan(1000001, 0), OUTSIDE);
        DUE.is("count(3)", x.count(3), 30);
        DUE.is("the refused one turns nothing", Calls.sendByte(x, 177), 0);
        DUE.is("the first does", Calls.sendByte(x, 177), 1);
        for (int i = 2; i < 30; i++) {
            Calls.sendByte(x, 177);
        }
        DUE.is("the thirtieth does", Calls.sendByte(x, 177), 1);
        DUE.is("faults stay in the plan", x.plan(40, 0), FULL);
        DUE.is("thirty frames had one", x.count(1), 30);
    }

    /** 9: "(That of FRAMES that were SENT already does nothing.)": but it takes a place of THE PLAN. */
    private static void planOfFramesSentAlready() {
        StoragePath x = new StoragePath();
        Calls.sendByte(x, 177);
        DUE.is("plan of the latest", x.plan(0, 0), 1);
        DUE.same("the wire", Calls.wireOf(x), OF_177);
        DUE.is("finding", x.finding(0), 0);
        DUE.is("the next frame", Calls.sendByte(x, 177), 0);
        DUE.is("plan of the next", x.plan(2, 0), 2);
        DUE.is("it has a finding", Calls.sendByte(x, 177), 1);
    }

    private static void faults() {
        faultBeyondTheLastBit();
        faultOfTheLongestFrame();
        faultTwice();
        faultOfOneTryAlone();
        framesAreSentFourTimes();
    }

    /** Terms: "the bit b modulo the number of bits of that FRAME is turned" */
    private static void faultBeyondTheLastBit() {
        int[][] turned = {{69, 69}, {70, 0}, {71, 1}, {139, 69}, {140, 0}, {1000000, 50}, {999999, 49}};
        for (int[] t : turned) {
            DUE.same("bit " + t[0], Calls.wireOf(Calls.sentWith(177, t[0])), Calls.turnedAt(OF_177, t[1]));
        }
    }

    /** Terms, the same of a frame of 180 bits, where bit 70 is another one. */
    private static void faultOfTheLongestFrame() {
        int[][] turned = {{70, 70}, {179, 179}, {180, 0}, {1000000, 100}};
        for (int[] t : turned) {
            StoragePath x = new StoragePath();
            for (int i = 0; i < 12; i++) {
                x.draft(SCRAMBLE[i]);
            }
            x.plan(0, t[0]);
            x.test();
            DUE.same("bit " + t[0], Calls.wireOf(x), Calls.turnedAt(
                Calls.bitsOf(123, 31, 31, 31, 31, 31, 31, 31, 31, 31, 31, 31, 31, 849, 230, 453, 395, 898), t[1]));
        }
    }

    /** Terms: "(twice: as it was)"; a third time it is turned, by whatever number it is told. */
    private static void faultTwice() {
        DUE.same("twice", Calls.wireOf(Calls.sentWith(177, 5, 5)), OF_177);
        DUE.same("twice by modulo", Calls.wireOf(Calls.sentWith(177, 5, 75)), OF_177);
        DUE.same("three times", Calls.wireOf(Calls.sentWith(177, 5, 75, 145)), Calls.turnedAt(OF_177, 5));
        DUE.is("finding of twice", Calls.sentWith(177, 0, 70).finding(0), 0);
        DUE.is("counted", Calls.sentWith(177, 0, 70).count(1), 0);
    }

    /** Terms: "numbered .. each time anew": the fault of a frame is not met by the next try. */
    private static void faultOfOneTryAlone() {
        StoragePath x = new StoragePath();
        x.plan(0, 0);
        x.flush(0);
        x.step();
        DUE.is("done", x.result(0), 0);
        DUE.is("sent", x.count(0), 3);
        DUE.is("the first try", x.finding(2), 1);
        DUE.is("the second", x.finding(1), 0);
    }

    /** Terms: "until it is RECEIVED without a FINDING, 4 times at most; else it has FAILED" */
    private static void framesAreSentFourTimes() {
        for (int spoilt = 0; spoilt <= 5; spoilt++) {
            StoragePath x = new StoragePath();
            Calls.spoil(x, 0, spoilt);
            x.flush(0);
            x.step();
            boolean done = spoilt < 4;
            DUE.is(spoilt + " spoilt: result", x.result(0), done ? 0 : 1);
            DUE.is(spoilt + " spoilt: sent", x.count(0), done ? spoilt + 2 : 4);
            DUE.is(spoilt + " spoilt: with a finding", x.count(1), Math.min(spoilt, 4));
            DUE.is(spoilt + " spoilt: failed", x.count(2), done ? 0 : 1);
        }
    }

    private static void calms() {
        calmOfNothing();
        calmOfAFullPlan();
        calmLeavesTheRest();
    }

    /** 10: "THE PLAN is empty: how many it had.", of none. */
    private static void calmOfNothing() {
        StoragePath x = new StoragePath();
        DUE.is("calm", x.calm(), 0);
        DUE.is("calm again", x.calm(), 0);
    }

    /** 10, of 30; then there is room for 30. */
    private static void calmOfAFullPlan() {
        StoragePath x = new StoragePath();
        Calls.spoil(x, 0, 30);
        DUE.is("calm", x.calm(), 30);
        DUE.is("count(3)", x.count(3), 0);
        DUE.is("no bit is turned", Calls.sendByte(x, 177), 0);
        for (int i = 1; i <= 30; i++) {
            DUE.is("plan no. " + i, x.plan(1, 0), i);
        }
        DUE.is("plan no. 31", x.plan(1, 0), FULL);
        DUE.is("thirty times the same bit: as it was", Calls.sendByte(x, 177), 0);
    }

    /** 10: THE PLAN alone is emptied. */
    private static void calmLeavesTheRest() {
        StoragePath x = Calls.sentWith(177, 0);
        Calls.draftAll(x, 0);
        x.read(0, 0, 1);
        DUE.is("calm", x.calm(), 1);
        DUE.is("sent", x.count(0), 1);
        DUE.is("with a finding", x.count(1), 1);
        DUE.is("finding", x.finding(0), 1);
        DUE.is("check", x.check(), 1086693993);
        DUE.is("issued", x.state(0), 1);
    }
}
