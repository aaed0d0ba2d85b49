/**
 * A path from a host to a disk: words of ten bits, frames with a check, faults on the wire,
 * commands with tags, a cache and power cuts. The numbered promises stand in DOC.md.
 */
public final class StoragePath {
    public static final int NONE = -1, UNKNOWN = -2, OUTSIDE = -3, NOT = -4, FULL = -5;

    private static final int WORD_BITS = 10, WORDS = 1024, ALL_ONES = 1023;
    private static final int FIRST_UNEVEN = 252, FIRST_SIGN = 256, VALUES = 264;
    private static final int OPENING_SIGN = 256, CLOSING_SIGN = 257;

    private static final int MOST_PAYLOAD = 12, CHECK_BYTES = 4, MOST_BODY = 16, MOST_BITS = 180;
    private static final int CHECK_START = 1378996274, CHECK_MASK = 79764919;
    private static final int SCRAMBLE_START = 65535, SCRAMBLE_MASK = 40977;

    private static final int FINDING_NONE = 0, FINDING_WORD = 1, FINDING_TURN = 2;
    private static final int FINDING_SIGN = 3, FINDING_CHECK = 4;
    private static final int FINDINGS_KEPT = 16, MOST_FAULTS = 30, MOST_PLANNED = 1000000;
    private static final int MOST_TRIES = 4;

    private static final int SECTORS = 32, CACHE_PLACES = 6;
    private static final int NAMED_SECTORS = 64, MOST_MANY = 4;

    private static final int TAGS = 8;
    private static final int FREE = 0, ISSUED = 1, ENDED = 2;
    private static final int READ = 0, WRITE = 1, THROUGH = 2, FLUSH = 3;
    private static final int DONE = 0, WIRE = 1, BOUNDS = 2, POWER = 3;
    private static final int ORDER_FRAME = 39, NUMBER_FRAME = 70, ANSWER_FRAME = 161;
    private static final int WAY_FIRST_ISSUED = 0, WAY_RISING = 1, WAY_GREATEST_TAG = 2;

    private final Code code = new Code();
    private final Link link = new Link(code);
    private final Disk disk = new Disk();
    private final Bytes drafted = new Bytes();
    private final Bytes frame = new Bytes();
    private final Command[] commands = new Command[TAGS];
    private final int[] toldNumbers = new int[MOST_MANY];
    private int wayNow = WAY_FIRST_ISSUED;
    private int lastSectorTaken;
    private int issuedSoFar;

    public StoragePath() {
        for (int tag = 0; tag < TAGS; tag++) {
            commands[tag] = new Command(tag);
        }
    }

    // ---- code and frames by themselves

    public int encode(int value, boolean excess) {
        return code.wordOf(value, excess);
    }

    public int decode(int word, boolean excess) {
        if (word < 0 || word >= WORDS) {
            return OUTSIDE;
        }
        int value = code.valueOf(word, excess);
        return value < 0 ? NONE : value;
    }

    public int draft(int b) {
        if (b < 0 || b > 255) {
            return OUTSIDE;
        }
        if (drafted.size() >= MOST_PAYLOAD) {
            return FULL;
        }
        drafted.add(b);
        return drafted.size();
    }

    public int check() {
        return drafted.checksum(drafted.size());
    }

    public int test() {
        if (drafted.size() == 0) {
            return NOT;
        }
        int found = link.sendOnce(drafted);
        drafted.clear();
        return found;
    }

    public int wire(int i) {
        return link.bitAt(i);
    }

    public int finding(int k) {
        return link.findingFromEnd(k);
    }

    public int plan(int f, int b) {
        if (f < 0 || f > MOST_PLANNED || b < 0 || b > MOST_PLANNED) {
            return OUTSIDE;
        }
        return link.addFault(f, b);
    }

    public int calm() {
        return link.dropFaults();
    }

    // ---- commands

    public int read(int tag, int sector, int many) {
        return issue(tag, READ, sector, many);
    }

    public int write(int tag, int sector, int many, boolean through, int a, int b, int c, int d) {
        int answer = issue(tag, through ? THROUGH : WRITE, sector, many);
        Command command = commandOf(tag);
        if (answer > 0 && command != null) {
            command.setNumbers(a, b, c, d);
        }
        return answer;
    }

    public int flush(int tag) {
        return issue(tag, FLUSH, 0, 0);
    }

    public int step() {
        Command command = nextCommand();
        if (command == null) {
            return NOT;
        }
        lastSectorTaken = command.lastSector();
        command.end(carryOut(command));
        return command.tag;
    }

    public int drain() {
        int taken = 0;
        while (taken < TAGS && step() >= 0) {
            taken++;
        }
        return taken;
    }

    public int result(int tag) {
        Command command = commandOf(tag);
        if (command == null) {
            return UNKNOWN;
        }
        if (command.stage != ENDED) {
            return NOT;
        }
        command.stage = FREE;
        if (command.kind == READ && command.outcome == DONE) {
            command.copyNumbers(toldNumbers);
        }
        return command.outcome;
    }

    public int got(int i) {
        return i >= 0 && i < toldNumbers.length ? toldNumbers[i] : 0;
    }

    public int way(int way) {
        if (way < WAY_FIRST_ISSUED || way > WAY_GREATEST_TAG) {
            return OUTSIDE;
        }
        int before = wayNow;
        wayNow = way;
        return before;
    }

    public int cut() {
        for (Command command : commands) {
            if (command.stage == ISSUED) {
                command.end(POWER);
            }
        }
        return disk.dropCache();
    }

    // ---- what is told

    public int sector(int s, boolean cached) {
        return cached ? disk.numberAsRead(s) : disk.numberOnDisk(s);
    }

    public int cached(int i) {
        return disk.sectorAtPlace(i);
    }

    public int state(int tag) {
        Command command = commandOf(tag);
        return command == null ? UNKNOWN : command.stage;
    }

    public int count(int what) {
        switch (what) {
            case 0: return link.sent;
            case 1: return link.sentWithFinding;
            case 2: return link.failed;
            case 3: return link.faults;
            case 4: return disk.cacheUsed;
            case 5: return commandsAt(ISSUED);
            case 6: return commandsAt(ENDED);
            case 7: return lastSectorTaken;
            case 8: return drafted.size();
            case 9: return link.bitsUsed;
            default: return OUTSIDE;
        }
    }

    // ---- how commands are issued, chosen and carried out

    private Command commandOf(int tag) {
        return tag >= 0 && tag < commands.length ? commands[tag] : null;
    }

    private int commandsAt(int stage) {
        int many = 0;
        for (Command command : commands) {
            if (command.stage == stage) {
                many++;
            }
        }
        return many;
    }

    /** 1, or why the command is refused: the first reason that fits. */
    private int issue(int tag, int kind, int first, int many) {
        Command command = commandOf(tag);
        if (command == null) {
            return UNKNOWN;
        }
        if (kind != FLUSH && (first < 0 || first >= NAMED_SECTORS || many < 1 || many > MOST_MANY)) {
            return OUTSIDE;
        }
        if (command.stage != FREE) {
            return NOT;
        }
        command.begin(kind, first, many, issuedSoFar);
        issuedSoFar++;
        return 1;
    }

    private Command nextCommand() {
        Command best = null;
        for (Command command : commands) {
            if (command.stage == ISSUED && (best == null || goesAhead(command, best))) {
                best = command;
            }
        }
        return best;
    }

    /** Strict, so that of like ones the least tag stays: commands are looked at by rising tag. */
    private boolean goesAhead(Command one, Command other) {
        switch (wayNow) {
            case WAY_RISING: return distance(one) < distance(other);
            case WAY_GREATEST_TAG: return one.tag > other.tag;
            default: return one.turn < other.turn;
        }
    }

    /** Sectors below the last one taken come behind all that are not. */
    private int distance(Command command) {
        return command.first < lastSectorTaken ? command.first + NAMED_SECTORS : command.first;
    }

    /** One method for all that goes over the wire, so that the calls below it stay few levels deep. */
    private int carryOut(Command command) {
        frame.setOrder(command);
        if (!link.deliver(frame)) {
            return WIRE;
        }
        int outcome = command.lastSector() < SECTORS ? DONE : BOUNDS;
        int many = outcome == DONE ? command.many : 0;
        for (int i = 0; i < many; i++) {
            int number = command.kind == READ ? disk.numberAsRead(command.first + i) : command.numberAt(i);
            frame.setNumber(command.tag, number);
            if (!link.deliver(frame)) {
                return WIRE;
            }
            keepNumber(command, i, number);
        }
        if (command.kind == FLUSH) {
            disk.layAll();
        }
        frame.setAnswer(command.tag, outcome);
        return link.deliver(frame) ? outcome : WIRE;
    }

    /** What the end that a number came to does with it: the host for a READ, else the disk. */
    private void keepNumber(Command command, int i, int number) {
        if (command.kind == READ) {
            command.setNumber(i, number);
        } else if (command.kind == WRITE) {
            disk.putInCache(command.first + i, number);
        } else {
            disk.putThrough(command.first + i, number);
        }
    }

    /** The words of the values 0 .. 255 (bytes) and 256 .. 263 (signs), and back. */
    private static final class Code {
        private final int[] lackWords = new int[VALUES];
        private final int[] values = new int[WORDS];

        Code() {
            for (int word = 0; word < WORDS; word++) {
                values[word] = -FINDING_WORD;
            }
            int even = 0;
            int uneven = FIRST_UNEVEN;
            for (int word = 0; word < WORDS; word++) {
                int ones = Integer.bitCount(word);
                if (ones == 5 && even < FIRST_UNEVEN) {
                    lackWords[even] = word;
                    values[word] = even;
                    even++;
                } else if (ones == 6 && uneven < VALUES) {
                    lackWords[uneven] = word;
                    values[word] = uneven;
                    values[ALL_ONES ^ word] = uneven;
                    uneven++;
                }
            }
        }

        int wordOf(int value, boolean excess) {
            if (value < 0 || value >= VALUES) {
                return OUTSIDE;
            }
            int word = lackWords[value];
            return excess && value >= FIRST_UNEVEN ? ALL_ONES ^ word : word;
        }

        /** The value, or the finding (WORD, TURN) with a minus. */
        int valueOf(int word, boolean excess) {
            if (word < 0 || word >= WORDS) {
                return -FINDING_WORD;
            }
            int value = values[word];
            boolean byExcess = Integer.bitCount(word) < 5;
            return value >= FIRST_UNEVEN && byExcess != excess ? -FINDING_TURN : value;
        }
    }

    /** A payload, with or without its check behind it. */
    private static final class Bytes {
        private final int[] row = new int[MOST_BODY];
        private int length;

        int size() {
            return length;
        }

        int at(int i) {
            return i >= 0 && i < length ? row[i] : 0;
        }

        void clear() {
            length = 0;
        }

        void add(int b) {
            if (length < row.length) {
                row[length] = b & 255;
                length++;
            }
        }

        void addNumber(int number) {
            for (int shift = 24; shift >= 0; shift -= 8) {
                add(number >>> shift);
            }
        }

        int numberAt(int start) {
            if (start < 0 || start > length - 4) {
                return 0;
            }
            int number = 0;
            for (int i = start; i < start + 4; i++) {
                number = (number << 8) | row[i];
            }
            return number;
        }

        void copy(Bytes other) {
            clear();
            for (int i = 0; i < other.length; i++) {
                add(other.at(i));
            }
        }

        void setOrder(Command command) {
            clear();
            add(ORDER_FRAME);
            add(command.kind);
            add(command.tag);
            add(command.first);
            add(command.many);
        }

        void setNumber(int tag, int number) {
            clear();
            add(NUMBER_FRAME);
            add(tag);
            addNumber(number);
        }

        void setAnswer(int tag, int outcome) {
            clear();
            add(ANSWER_FRAME);
            add(tag);
            add(outcome);
        }

        /** The check of the first bytes, as many as told. */
        int checksum(int many) {
            int c = CHECK_START;
            for (int i = 0; i < many && i < length; i++) {
                for (int bit = 7; bit >= 0; bit--) {
                    int x = (c >>> 31) ^ ((row[i] >>> bit) & 1);
                    c = c << 1;
                    if (x == 1) {
                        c = c ^ CHECK_MASK;
                    }
                }
            }
            return c;
        }
    }

    /** The wire with its plan of faults, a sender and a receiver. */
    private static final class Link {
        private final Code code;
        private final int[] scramble = new int[MOST_BODY];
        private final Bytes body = new Bytes();
        private final Bytes received = new Bytes();
        private final int[] bits = new int[MOST_BITS];
        private int bitsUsed;
        private final int[] faultFrames = new int[MOST_FAULTS];
        private final int[] faultBits = new int[MOST_FAULTS];
        private int faults;
        private final int[] findings = new int[FINDINGS_KEPT];
        private int sent;
        private int sentWithFinding;
        private int failed;

        Link(Code code) {
            this.code = code;
            int r = SCRAMBLE_START;
            for (int i = 0; i < MOST_BODY; i++) {
                for (int bit = 0; bit < 8; bit++) {
                    int top = r >>> 15;
                    scramble[i] = (scramble[i] << 1) | top;
                    r = (r << 1) & 65535;
                    if (top == 1) {
                        r = r ^ SCRAMBLE_MASK;
                    }
                }
            }
        }

        int bitAt(int i) {
            return i >= 0 && i < bitsUsed ? bits[i] : UNKNOWN;
        }

        int findingFromEnd(int k) {
            if (k < 0 || k >= FINDINGS_KEPT || k >= sent) {
                return UNKNOWN;
            }
            return findings[placeOfFinding(sent - 1 - k)];
        }

        int addFault(int frameNumber, int bit) {
            if (faults >= MOST_FAULTS) {
                return FULL;
            }
            faultFrames[faults] = frameNumber;
            faultBits[faults] = bit;
            faults++;
            return faults;
        }

        int dropFaults() {
            int had = faults;
            faults = 0;
            return had;
        }

        /** Sends a frame until it comes without a finding; false: it has failed. */
        boolean deliver(Bytes payload) {
            for (int tries = 0; tries < MOST_TRIES; tries++) {
                if (sendOnce(payload) == FINDING_NONE) {
                    return true;
                }
            }
            failed++;
            return false;
        }

        int sendOnce(Bytes payload) {
            body.copy(payload);
            body.addNumber(payload.checksum(payload.size()));
            layOnWire();
            turnFaultyBits();
            int found = receive();
            findings[placeOfFinding(sent)] = found;
            sent++;
            if (found != FINDING_NONE) {
                sentWithFinding++;
            }
            return found;
        }

        /** Only the latest findings are asked for, so their places are used again. */
        private int placeOfFinding(int frameNumber) {
            return frameNumber & (FINDINGS_KEPT - 1);
        }

        private void layOnWire() {
            int last = body.size() + 1;
            boolean excess = false;
            bitsUsed = 0;
            for (int w = 0; w <= last; w++) {
                int value = scrambled(body.at(w - 1), w - 1);
                if (w == 0) {
                    value = OPENING_SIGN;
                } else if (w == last) {
                    value = CLOSING_SIGN;
                }
                putBits(code.wordOf(value, excess));
                excess = excess != (value >= FIRST_UNEVEN);
            }
        }

        /** The scramble begins anew with each frame, and taken twice it is undone. */
        private int scrambled(int b, int i) {
            return i >= 0 && i < scramble.length ? b ^ scramble[i] : b;
        }

        private void putBits(int word) {
            for (int bit = WORD_BITS - 1; bit >= 0; bit--) {
                if (bitsUsed < bits.length) {
                    bits[bitsUsed] = (word >>> bit) & 1;
                    bitsUsed++;
                }
            }
        }

        private void turnFaultyBits() {
            for (int i = 0; i < faults; i++) {
                if (faultFrames[i] == sent && bitsUsed > 0) {
                    int place = faultBits[i] % bitsUsed;
                    bits[place] = 1 - bits[place];
                }
            }
        }

        private int wordAt(int w) {
            int start = w * WORD_BITS;
            if (start < 0 || start + WORD_BITS > bits.length) {
                return NONE;
            }
            int word = 0;
            for (int i = start; i < start + WORD_BITS; i++) {
                word = (word << 1) | bits[i];
            }
            return word;
        }

        /** Takes what is on the wire word by word: the finding. */
        private int receive() {
            int last = bitsUsed / WORD_BITS - 1;
            boolean excess = false;
            received.clear();
            for (int w = 0; w <= last; w++) {
                int value = code.valueOf(wordAt(w), excess);
                if (value < 0) {
                    return -value;
                }
                if (isMisplaced(value, w, last)) {
                    return FINDING_SIGN;
                }
                excess = excess != (value >= FIRST_UNEVEN);
                if (w > 0 && w < last) {
                    received.add(scrambled(value, w - 1));
                }
            }
            int payload = received.size() - CHECK_BYTES;
            return received.checksum(payload) == received.numberAt(payload) ? FINDING_NONE : FINDING_CHECK;
        }

        private boolean isMisplaced(int value, int w, int last) {
            if (w == 0) {
                return value != OPENING_SIGN;
            }
            return w == last ? value != CLOSING_SIGN : value >= FIRST_SIGN;
        }
    }

    /** The sectors and the cache ahead of them. */
    private static final class Disk {
        private final int[] numbers = new int[SECTORS];
        private final int[] cacheSectors = new int[CACHE_PLACES];
        private final int[] cacheNumbers = new int[CACHE_PLACES];
        private int cacheUsed;

        int numberOnDisk(int s) {
            return s >= 0 && s < numbers.length ? numbers[s] : 0;
        }

        int numberAsRead(int s) {
            int place = placeInCache(s);
            return place >= 0 ? cacheNumbers[place] : numberOnDisk(s);
        }

        int sectorAtPlace(int i) {
            return i >= 0 && i < cacheUsed ? cacheSectors[i] : UNKNOWN;
        }

        void putInCache(int s, int number) {
            int place = placeInCache(s);
            if (place < 0) {
                if (cacheUsed >= CACHE_PLACES) {
                    putOnDisk(cacheSectors[0], cacheNumbers[0]);
                    removeFromCache(0);
                }
                place = cacheUsed;
                cacheUsed++;
            }
            cacheSectors[place] = s;
            cacheNumbers[place] = number;
        }

        void putThrough(int s, int number) {
            int place = placeInCache(s);
            if (place >= 0) {
                removeFromCache(place);
            }
            putOnDisk(s, number);
        }

        void layAll() {
            for (int i = 0; i < cacheUsed; i++) {
                putOnDisk(cacheSectors[i], cacheNumbers[i]);
            }
            cacheUsed = 0;
        }

        int dropCache() {
            int had = cacheUsed;
            cacheUsed = 0;
            return had;
        }

        private int placeInCache(int s) {
            for (int i = 0; i < cacheUsed; i++) {
                if (cacheSectors[i] == s) {
                    return i;
                }
            }
            return NONE;
        }

        private void removeFromCache(int place) {
            for (int i = place; i < cacheUsed - 1; i++) {
                cacheSectors[i] = cacheSectors[i + 1];
                cacheNumbers[i] = cacheNumbers[i + 1];
            }
            cacheUsed--;
        }

        private void putOnDisk(int s, int number) {
            if (s >= 0 && s < numbers.length) {
                numbers[s] = number;
            }
        }
    }

    /** What a tag has: a command that is issued or ended, or none. */
    private static final class Command {
        private final int tag;
        private final int[] numbers = new int[MOST_MANY];
        private int stage = FREE;
        private int kind;
        private int first;
        private int many;
        private int turn;
        private int outcome;

        Command(int tag) {
            this.tag = tag;
        }

        void begin(int newKind, int newFirst, int newMany, int newTurn) {
            stage = ISSUED;
            kind = newKind;
            first = newFirst;
            many = newMany;
            turn = newTurn;
        }

        void end(int newOutcome) {
            stage = ENDED;
            outcome = newOutcome;
        }

        int lastSector() {
            return kind == FLUSH ? 0 : first + many - 1;
        }

        int numberAt(int i) {
            return i >= 0 && i < numbers.length ? numbers[i] : 0;
        }

        void setNumber(int i, int number) {
            if (i >= 0 && i < numbers.length) {
                numbers[i] = number;
            }
        }

        void setNumbers(int a, int b, int c, int d) {
            setNumber(0, a);
            setNumber(1, b);
            setNumber(2, c);
            setNumber(3, d);
        }

        /** Places behind the last number become 0. */
        void copyNumbers(int[] to) {
            for (int i = 0; i < to.length; i++) {
                to[i] = i < many ? numberAt(i) : 0;
            }
        }
    }
}
