/**
 * Rails, months and logs told as texts on a tape, and what follows from them.
 * The public methods are the promises of DOC.md; words in capitals are the terms that it tells.
 */
public final class ElsewhereStamps {
    /** There is none. */
    public static final int NONE = -1;

    private static final int NO_SUCH = -2;
    private static final int RAILS = 0;
    private static final int MONTHS = 1;
    private static final int LOGS = 2;
    private static final int SORTS = 3;
    private static final int MOST_OF_A_SORT = 2;
    private static final int MOST_IMAGES = 3;
    private static final int TAPE = 600;

    private static final int DAY = 12;
    private static final int MOST_LANDS = 6;
    private static final int MOST_TRAINS = 12;
    private static final int MOST_PERMITS = 8;
    private static final int MOST_LAWS = 6;
    private static final int MOST_CLERKS = 4;
    private static final int MOST_DEEDS = 40;
    private static final int MOST_SIGHTS = 8;
    /** Of a DEED: its kind, its CLERK, its other number; of a SIGHT: its LAND, its HOUR. */
    private static final int DEED_COLUMNS = 3;
    private static final int SIGHT_COLUMNS = 2;
    /** HOURS of questions are 0 .. 99. */
    private static final int HOURS = 100;
    private static final int LAST_HOUR_OF_A_MONTH = 299;

    private static final int RIDE = 0;
    private static final int WAIT = 1;
    private static final int MARK = 2;

    /** Above every HOUR that can be come to; never is told as NEVER_TOLD where the document has a number for it. */
    private static final int NEVER = 99999;
    private static final int NEVER_TOLD = 999;
    private static final int NO_TRAIN_TAKEN = 12;
    private static final int MOST_CUTS = 3;
    private static final int MOST_DRAWN = 60;
    private static final int READINGS = 4;

    private final Told told;
    private final Told[] images;
    private final Reader reader;
    private final Course course;
    private final Ways ways;
    private final Rounds rounds;
    private final Papers papers;
    private final Asking asking;
    private final Traces traces;

    public ElsewhereStamps() {
        told = new Told();
        images = new Told[MOST_IMAGES];
        reader = new Reader();
        course = new Course();
        ways = new Ways();
        rounds = new Rounds();
        papers = new Papers();
        asking = new Asking();
        traces = new Traces();
    }

    public int feed(int a, int b, int c, int d, int e) {
        if (told.length + 20 > TAPE) {
            return NONE;
        }
        told.putNumber(a);
        told.putNumber(b);
        told.putNumber(c);
        told.putNumber(d);
        told.putNumber(e);
        return told.length;
    }

    public int end(int n) {
        if (n < 0 || n > told.length) {
            return NONE;
        }
        told.length = n;
        return n;
    }

    public int text(int sort, int at) {
        // The tape is taken whatever the answer is, also where no text is read.
        int length = told.length;
        told.length = 0;
        told.fault = 0;
        told.place = NONE;
        if (sort < 0 || sort >= SORTS) {
            return NO_SUCH;
        }
        boolean further = at == NONE;
        if (further ? told.howMany[sort] >= MOST_OF_A_SORT : !there(sort, at)) {
            return NO_SUCH;
        }
        reader.readText(sort, told.tape, length);
        told.fault = reader.fault;
        told.place = reader.place;
        if (reader.fault != 0) {
            return NONE;
        }
        int number = further ? told.howMany[sort] : at;
        told.howMany[sort] = Math.max(told.howMany[sort], number + 1);
        keepRead(sort, number);
        return number;
    }

    public int fault(int what) {
        if (what == 0) {
            return told.fault;
        }
        return what == 1 ? told.place : NONE;
    }

    public int rail(int rail, int what) {
        return there(RAILS, rail) ? told.rails[rail].answer(what) : NONE;
    }

    public int deed(int month, int k, int what) {
        return there(MONTHS, month) ? told.months[month].answer(k, what) : NO_SUCH;
    }

    public int till(int rail, int month) {
        if (!there(RAILS, rail) || !there(MONTHS, month)) {
            return NONE;
        }
        return course.runMonth(told.rails[rail], told.months[month], MOST_DEEDS);
    }

    public int state(int rail, int month, int n, int what) {
        if (!there(RAILS, rail) || !there(MONTHS, month) || n < 0) {
            return NO_SUCH;
        }
        Rail on = told.rails[rail];
        if (course.runMonth(on, told.months[month], n) < n) {
            return NO_SUCH;
        }
        return course.answer(on, what);
    }

    public int soonest(int rail, int from, int hour, int to, boolean train) {
        if (!thereLand(rail, from) || !thereLand(rail, to) || !isHour(hour)) {
            return NO_SUCH;
        }
        Rail on = told.rails[rail];
        int there = ways.arrival(on, from, hour, to);
        if (there == NEVER) {
            return NO_SUCH;
        }
        return train ? ways.firstTrain(on, from, hour, to) : there;
    }

    public int duty(int rail, int clerk) {
        return thereClerk(rail, clerk) ? told.rails[rail].dutyOf(clerk) : NONE;
    }

    public int round(int rail, int clerk, int k) {
        if (!thereClerk(rail, clerk)) {
            return NONE;
        }
        rounds.go(told.rails[rail], clerk);
        return rounds.answer(k);
    }

    public int meeting(int rail, int a, int b, boolean land) {
        if (!thereClerk(rail, a) || !thereClerk(rail, b)) {
            return NONE;
        }
        return ways.gathering(told.rails[rail], 1 << a | 1 << b, land);
    }

    public int offices(int rail, int n, boolean hours) {
        if (!there(RAILS, rail) || n < 1 || n > told.rails[rail].lands) {
            return NONE;
        }
        return ways.bestOffices(told.rails[rail], n, hours);
    }

    public int cut(int rail, int n, int from, int to, boolean first) {
        if (!thereLand(rail, from) || !thereLand(rail, to) || n < 0 || n > MOST_CUTS) {
            return NO_SUCH;
        }
        return ways.cutTrains(told.rails[rail], n, from, to, first);
    }

    public long mean(int rail, int train, int hour, int p, boolean under) {
        if (!there(RAILS, rail) || train < 0 || train >= told.rails[rail].trains) {
            return NONE;
        }
        if (!isHour(hour) || p < 0 || p > 9) {
            return NONE;
        }
        Rail on = told.rails[rail];
        // It fails p / (10 - p) DAYS in the mean before it leaves.
        long below = 10 - p;
        long above = on.nextArrival(train, hour) * below + (long) DAY * p;
        long common = commonDivisor(above, below);
        return (under ? below : above) / common;
    }

    public int ring(int rail, int what) {
        return there(RAILS, rail) ? asking.answer(told.rails[rail], what) : NO_SUCH;
    }

    public int counts(int rail, int land, int reading) {
        if (!there(RAILS, rail) || reading < 0 || reading >= READINGS) {
            return NONE;
        }
        Rail on = told.rails[rail];
        if (land == NONE) {
            return on.permitsRead(reading);
        }
        return thereLand(rail, land) ? on.elsewhere(land, reading) : NONE;
    }

    public int sight(int log, int k, int what) {
        return there(LOGS, log) ? told.logs[log].answer(k, what) : NO_SUCH;
    }

    public int could(int rail, int log, int hour) {
        boolean known = isHour(hour) || hour == NONE || hour == NO_SUCH;
        if (!known || !traceable(rail, log)) {
            return NONE;
        }
        if (hour == NO_SUCH) {
            return traces.freeHours();
        }
        return traces.could[hour == NONE ? 0 : hour];
    }

    public int drawn(int rail, int seed, int n, int what) {
        if (!there(RAILS, rail) || n < 0 || n > MOST_DRAWN) {
            return NO_SUCH;
        }
        Rail on = told.rails[rail];
        course.runSeed(on, seed, n);
        return course.answer(on, what);
    }

    public int lands(int rail, int what) {
        if (!there(RAILS, rail)) {
            return NONE;
        }
        Rail on = told.rails[rail];
        if (what == 0) {
            return ways.widest(on);
        }
        if (what == 1 || what == 2) {
            return on.hub(what == 2);
        }
        return what >= 10 && what < 10 + on.lands ? on.reach(what - 10, NONE) : NONE;
    }

    public int trains(int rail, int what) {
        if (!there(RAILS, rail)) {
            return NONE;
        }
        Rail on = told.rails[rail];
        if (what == 0 || what == 1) {
            return ways.keyTrain(on, what == 1);
        }
        return what == 2 ? ways.spareTrains(on) : NONE;
    }

    public int latest(int rail, int from, int to, int by) {
        if (!thereLand(rail, from) || !thereLand(rail, to) || !isHour(by)) {
            return NONE;
        }
        return ways.latestHour(told.rails[rail], from, to, by);
    }

    public int board(int rail, int land, int hour, int k) {
        if (!thereLand(rail, land) || !isHour(hour)) {
            return NONE;
        }
        return told.rails[rail].boardTrain(land, hour, k);
    }

    public int gathered(int rail, boolean land) {
        if (!there(RAILS, rail) || told.rails[rail].clerks == 0) {
            return NONE;
        }
        Rail on = told.rails[rail];
        return ways.gathering(on, (1 << on.clerks) - 1, land);
    }

    public int orders(int rail, int permit, int k) {
        if (!therePermit(rail, permit)) {
            return NONE;
        }
        Rail on = told.rails[rail];
        return k == NONE ? papers.howManyOrders(on, permit) : papers.firstOrder(on, permit, k);
    }

    public int lacks(int rail, int permit, boolean ready) {
        if (!therePermit(rail, permit)) {
            return NONE;
        }
        Rail on = told.rails[rail];
        if (!ready) {
            return papers.lackedMarks(on, permit);
        }
        int hour = papers.readyHour(on, permit, on.place[permit]);
        return hour == NEVER ? NONE : hour;
    }

    public int ledge(int rail, int permit, boolean hour) {
        return therePermit(rail, permit) ? papers.bestPlace(told.rails[rail], permit, hour) : NONE;
    }

    public int busy(int rail, boolean many) {
        return there(RAILS, rail) ? told.rails[rail].busiest(many) : NO_SUCH;
    }

    public int certain(int rail, int log, boolean first) {
        return traceable(rail, log) ? traces.certainHours(first) : NO_SUCH;
    }

    public int stuck(int rail) {
        return there(RAILS, rail) ? papers.stuckPermits(told.rails[rail]) : NONE;
    }

    public int after(int rail, int month, int what) {
        if (!there(RAILS, rail) || !there(MONTHS, month)) {
            return NO_SUCH;
        }
        Rail on = told.rails[rail];
        course.runMonth(on, told.months[month], MOST_DEEDS);
        return course.answerAfter(on, what);
    }

    public int count(int sort) {
        return sort >= 0 && sort < SORTS ? told.howMany[sort] : NO_SUCH;
    }

    public boolean image(int k) {
        if (k < 0 || k >= MOST_IMAGES) {
            return false;
        }
        if (images[k] == null) {
            images[k] = new Told();
        }
        images[k].copy(told);
        return true;
    }

    public boolean again(int k) {
        if (k < 0 || k >= MOST_IMAGES || images[k] == null) {
            return false;
        }
        told.copy(images[k]);
        return true;
    }

    private void keepRead(int sort, int number) {
        if (sort == RAILS) {
            told.rails[number].copy(reader.rail);
        } else if (sort == MONTHS) {
            told.months[number].copy(reader.month);
        } else {
            told.logs[number].copy(reader.log);
        }
    }

    private boolean there(int sort, int number) {
        return number >= 0 && number < told.howMany[sort];
    }

    private boolean thereLand(int rail, int land) {
        return there(RAILS, rail) && land >= 0 && land < told.rails[rail].lands;
    }

    private boolean therePermit(int rail, int permit) {
        return there(RAILS, rail) && permit >= 0 && permit < told.rails[rail].permits;
    }

    private boolean thereClerk(int rail, int clerk) {
        return there(RAILS, rail) && clerk >= 0 && clerk < told.rails[rail].clerks;
    }

    private boolean traceable(int rail, int log) {
        return there(RAILS, rail) && there(LOGS, log) && traces.follow(told.rails[rail], told.logs[log]);
    }

    private static boolean isHour(int hour) {
        return hour >= 0 && hour < HOURS;
    }

    private static boolean has(int bits, int n) {
        return (bits >> n & 1) == 1;
    }

    private static long commonDivisor(long a, long b) {
        long more = a;
        long less = b;
        // Two steps halve the lesser number at least, which is ten at most: 64 steps are plenty.
        for (int step = 0; step < 64 && less != 0; step++) {
            long rest = more % less;
            more = less;
            less = rest;
        }
        return more == 0 ? 1 : more;
    }

    /** All that is told: what an image keeps. */
    private static final class Told {
        final byte[] tape = new byte[TAPE];
        int length = 0;
        int fault = 0;
        int place = NONE;
        final int[] howMany = new int[SORTS];
        final Rail[] rails = new Rail[MOST_OF_A_SORT];
        final Sheet[] months = new Sheet[MOST_OF_A_SORT];
        final Sheet[] logs = new Sheet[MOST_OF_A_SORT];

        Told() {
            for (int i = 0; i < MOST_OF_A_SORT; i++) {
                rails[i] = new Rail();
                months[i] = new Sheet(MOST_DEEDS, DEED_COLUMNS);
                logs[i] = new Sheet(MOST_SIGHTS, SIGHT_COLUMNS);
            }
        }

        void putNumber(int number) {
            for (int shift = 24; shift >= 0 && length < TAPE; shift -= 8) {
                tape[length] = (byte) (number >> shift);
                length++;
            }
        }

        void copy(Told other) {
            System.arraycopy(other.tape, 0, tape, 0, other.length);
            length = other.length;
            fault = other.fault;
            place = other.place;
            System.arraycopy(other.howMany, 0, howMany, 0, SORTS);
            for (int i = 0; i < MOST_OF_A_SORT; i++) {
                rails[i].copy(other.rails[i]);
                months[i].copy(other.months[i]);
                logs[i].copy(other.logs[i]);
            }
        }
    }

    /** A RAIL as told, and what can be seen of it without going by hours over several TRAINS. */
    private static final class Rail {
        private static final int LANDS_AT_FIRST = 3;

        int lands = LANDS_AT_FIRST;
        int trains = 0;
        int permits = 0;
        int laws = 0;
        int clerks = 0;
        final int[] from = new int[MOST_TRAINS];
        final int[] to = new int[MOST_TRAINS];
        final int[] leaves = new int[MOST_TRAINS];
        final int[] takes = new int[MOST_TRAINS];
        final int[] place = new int[MOST_PERMITS];
        final int[] needs = new int[MOST_PERMITS];
        final int[] whose = new int[MOST_LAWS];
        final int[] behind = new int[MOST_LAWS];
        final int[] home = new int[MOST_CLERKS];
        final int[] start = new int[MOST_CLERKS];
        /** Rows that Ways has worked out, and of each LAND the HOURS of the DAY (bits) for which there is one. */
        final int[] rows = new int[MOST_LANDS * DAY * MOST_LANDS];
        final int[] rowsKnown = new int[MOST_LANDS];

        void clear() {
            lands = LANDS_AT_FIRST;
            trains = 0;
            permits = 0;
            laws = 0;
            clerks = 0;
            for (int permit = 0; permit < MOST_PERMITS; permit++) {
                needs[permit] = 0;
            }
            forgetRows();
        }

        void copy(Rail other) {
            lands = other.lands;
            trains = other.trains;
            permits = other.permits;
            laws = other.laws;
            clerks = other.clerks;
            System.arraycopy(other.from, 0, from, 0, MOST_TRAINS);
            System.arraycopy(other.to, 0, to, 0, MOST_TRAINS);
            System.arraycopy(other.leaves, 0, leaves, 0, MOST_TRAINS);
            System.arraycopy(other.takes, 0, takes, 0, MOST_TRAINS);
            System.arraycopy(other.place, 0, place, 0, MOST_PERMITS);
            System.arraycopy(other.needs, 0, needs, 0, MOST_PERMITS);
            System.arraycopy(other.whose, 0, whose, 0, MOST_LAWS);
            System.arraycopy(other.behind, 0, behind, 0, MOST_LAWS);
            System.arraycopy(other.home, 0, home, 0, MOST_CLERKS);
            System.arraycopy(other.start, 0, start, 0, MOST_CLERKS);
            forgetRows();
        }

        private void forgetRows() {
            for (int land = 0; land < MOST_LANDS; land++) {
                rowsKnown[land] = 0;
            }
        }

        int answer(int what) {
            if (what < 0) {
                return NONE;
            }
            if (what >= 100) {
                return answerTrain(what / 100, what % 100);
            }
            int k = what % 10;
            switch (what / 10) {
                case 0: return answerHowMany(k);
                case 1: return k < clerks ? home[k] : NONE;
                case 2: return k < clerks ? start[k] : NONE;
                case 3: return k < permits ? place[k] : NONE;
                case 4: return k < permits ? needs[k] : NONE;
                case 5: return k < laws ? whose[k] : NONE;
                case 6: return k < laws ? behind[k] : NONE;
                default: return NONE;
            }
        }

        private int answerHowMany(int what) {
            switch (what) {
                case 0: return lands;
                case 1: return trains;
                case 2: return permits;
                case 3: return laws;
                case 4: return clerks;
                default: return NONE;
            }
        }

        private int answerTrain(int what, int train) {
            if (train >= trains) {
                return NONE;
            }
            switch (what) {
                case 1: return from[train];
                case 2: return to[train];
                case 3: return leaves[train];
                case 4: return takes[train];
                default: return NONE;
            }
        }

        /** The HOUR at which a TRAIN leaves next, for one who is there at an HOUR. */
        int nextLeave(int train, int hour) {
            return hour + Math.floorMod(leaves[train] - hour, DAY);
        }

        int nextArrival(int train, int hour) {
            return hour + Math.floorMod(leaves[train] - hour, DAY) + takes[train];
        }

        int dutyOf(int clerk) {
            int duty = 0;
            for (int permit = 0; permit < permits; permit++) {
                if (has(needs[permit], home[clerk])) {
                    duty |= 1 << permit;
                }
            }
            return duty;
        }

        /** LANDS (bits) to which one can come from a LAND, itself too; banned is a LAND without TRAINS, or NONE. */
        int reach(int land, int banned) {
            int reached = 1 << land;
            for (int step = 1; step < lands; step++) {
                for (int train = 0; train < trains; train++) {
                    boolean goes = from[train] != banned && to[train] != banned;
                    if (goes && has(reached, from[train])) {
                        reached |= 1 << to[train];
                    }
                }
            }
            return reached;
        }

        int hub(boolean howManyLeft) {
            int hub = NONE;
            int fewest = NEVER;
            for (int land = 0; land < lands; land++) {
                int left = couplesWithout(land);
                if (left < fewest) {
                    fewest = left;
                    hub = land;
                }
            }
            return howManyLeft ? fewest : hub;
        }

        private int couplesWithout(int banned) {
            int couples = 0;
            for (int land = 0; land < lands; land++) {
                if (land != banned) {
                    couples += Integer.bitCount(reach(land, banned)) - 1;
                }
            }
            return couples;
        }

        /** The k-th TRAIN is the one before which k others stand on the board. */
        int boardTrain(int land, int hour, int k) {
            for (int train = 0; train < trains; train++) {
                if (from[train] == land && trainsBefore(train, hour) == k) {
                    return train;
                }
            }
            return NONE;
        }

        private int trainsBefore(int train, int hour) {
            int own = nextLeave(train, hour);
            int before = 0;
            for (int other = 0; other < trains; other++) {
                if (from[other] == from[train]) {
                    int leave = nextLeave(other, hour);
                    if (leave < own || leave == own && other < train) {
                        before++;
                    }
                }
            }
            return before;
        }

        /** LANDS (bits) that are elsewhere for a LAND; a LAND is never elsewhere for itself. */
        int elsewhere(int land, int reading) {
            int others = (1 << lands) - 1 & ~(1 << land);
            switch (reading) {
                case 1: return others & trainsLink(land, false);
                case 2: return others & reach(land, NONE);
                case 3: return others & ~trainsLink(land, false) & ~trainsLink(land, true);
                default: return others;
            }
        }

        /** LANDS (bits) to which a TRAIN goes from a LAND, or (back) from which one goes to it. */
        private int trainsLink(int land, boolean back) {
            int linked = 0;
            for (int train = 0; train < trains; train++) {
                int here = back ? to[train] : from[train];
                if (here == land) {
                    linked |= 1 << (back ? from[train] : to[train]);
                }
            }
            return linked;
        }

        int permitsRead(int reading) {
            int read = 0;
            for (int permit = 0; permit < permits; permit++) {
                if ((needs[permit] & ~elsewhere(place[permit], reading)) == 0) {
                    read |= 1 << permit;
                }
            }
            return read;
        }

        int busiest(boolean howMany) {
            int busiest = NONE;
            int most = 0;
            for (int land = 0; land < lands; land++) {
                int many = 0;
                for (int permit = 0; permit < permits; permit++) {
                    many += needs[permit] >> land & 1;
                }
                if (many > most) {
                    most = many;
                    busiest = land;
                }
            }
            return howMany ? most : busiest;
        }
    }

    /** Rows of numbers, at most so many: the DEEDS of a MONTH, the SIGHTS of a LOG. */
    private static final class Sheet {
        private final int columns;
        private final int most;
        private final int[] cells;
        int rows = 0;

        Sheet(int most, int columns) {
            this.most = most;
            this.columns = columns;
            cells = new int[most * columns];
        }

        int room() {
            return most - rows;
        }

        void put(int row, int column, int number) {
            cells[row * columns + column] = number;
        }

        int at(int row, int column) {
            return cells[row * columns + column];
        }

        void copy(Sheet other) {
            rows = other.rows;
            System.arraycopy(other.cells, 0, cells, 0, cells.length);
        }

        int answer(int k, int what) {
            if (k == NONE) {
                return what == 0 ? rows : NO_SUCH;
            }
            boolean told = k >= 0 && k < rows && what >= 0 && what < columns;
            return told ? at(k, what) : NO_SUCH;
        }
    }

    /** The TOKENS of a tape, one at a time. */
    private static final class Tokens {
        static final int AT_END = 0;
        static final int WORD = 1;
        static final int NUMBER = 2;
        static final int SEMICOLON = 3;
        static final int NO_TOKEN = 4;

        private final byte[] tape = new byte[TAPE];
        private int length = 0;
        /** Of the latest token: its kind, its first byte, the byte behind it, its value if it is a NUMBER. */
        int kind = AT_END;
        int first = 0;
        private int behind = 0;
        int value = 0;

        void open(byte[] bytes, int howMany) {
            System.arraycopy(bytes, 0, tape, 0, howMany);
            length = howMany;
            behind = 0;
            step();
        }

        void step() {
            first = behind;
            while (first < length && isBlank(tape[first])) {
                first++;
            }
            behind = first;
            if (first >= length) {
                kind = AT_END;
            } else if (isLetter(tape[first])) {
                kind = WORD;
                skipLetters();
            } else if (isDigit(tape[first])) {
                takeDigits();
            } else {
                kind = tape[first] == ';' ? SEMICOLON : NO_TOKEN;
                behind++;
            }
        }

        private void skipLetters() {
            while (behind < length && isLetter(tape[behind])) {
                behind++;
            }
        }

        private void takeDigits() {
            value = 0;
            while (behind < length && isDigit(tape[behind])) {
                value = value * 10 + (tape[behind] - '0');
                behind++;
            }
            kind = behind - first <= 2 ? NUMBER : NO_TOKEN;
        }

        boolean isWord(String word) {
            if (kind != WORD || behind - first != word.length()) {
                return false;
            }
            for (int i = 0; i < word.length(); i++) {
                if (tape[first + i] != word.charAt(i)) {
                    return false;
                }
            }
            return true;
        }

        private static boolean isBlank(byte sign) {
            return sign == 10 || sign == 32;
        }

        private static boolean isLetter(byte sign) {
            return sign >= 'a' && sign <= 'z';
        }

        private static boolean isDigit(byte sign) {
            return sign >= '0' && sign <= '9';
        }
    }

    /** Reads a text into a RAIL, a MONTH or a LOG, or finds its FAULT. */
    private static final class Reader {
        private static final int LANDS = 0;
        private static final int TRAIN = 1;
        private static final int PERMIT = 2;
        private static final int NEEDS = 3;
        private static final int LAW = 4;
        private static final int CLERK = 5;
        private static final int FIRST_DEED = 6;
        private static final int SEEN = 9;
        private static final int MOST_NUMBERS = 4;
        /** By line: how many NUMBERS it has; of each the least and the most that can be (rows are filled up by 0). */
        private static final int[] NUMBERS = {1, 4, 1, 2, 2, 2, 2, 2, 2, 2};
        private static final int[] LEAST = {
            2, 0, 0, 0, // lands
            0, 0, 0, 1, // train
            0, 0, 0, 0, // permit
            0, 0, 0, 0, // needs
            0, 0, 0, 0, // law
            0, 0, 0, 0, // clerk
            0, 0, 0, 0, // ride
            0, 1, 0, 0, // wait
            0, 0, 0, 0, // mark
            0, 0, 0, 0, // seen
        };
        private static final int[] MOST = {
            6, 0, 0, 0, // lands
            5, 5, 11, 24, // train
            5, 0, 0, 0, // permit
            7, 5, 0, 0, // needs
            5, 5, 0, 0, // law
            5, 5, 0, 0, // clerk
            3, 11, 0, 0, // ride
            3, 24, 0, 0, // wait
            3, 7, 0, 0, // mark
            5, 99, 0, 0, // seen
        };

        final Rail rail = new Rail();
        final Sheet month = new Sheet(MOST_DEEDS, DEED_COLUMNS);
        final Sheet log = new Sheet(MOST_SIGHTS, SIGHT_COLUMNS);
        int fault = 0;
        int place = NONE;
        private final Tokens tokens = new Tokens();
        private final int[] number = new int[MOST_NUMBERS];
        private final int[] numberPlace = new int[MOST_NUMBERS];
        /** The greatest LAND and PERMIT that were told of: they may come to be there later in the text. */
        private int landTold = NONE;
        private int permitTold = NONE;

        void readText(int sort, byte[] tape, int length) {
            fault = 0;
            place = NONE;
            landTold = NONE;
            permitTold = NONE;
            rail.clear();
            month.rows = 0;
            log.rows = 0;
            tokens.open(tape, length);
            for (int line = 0; line <= TAPE && fault != 1 && tokens.kind != Tokens.AT_END; line++) {
                readLine(sort);
            }
            if (sort == RAILS && fault == 0) {
                checkRail(length);
            }
        }

        private void readLine(int sort) {
            int line = lineByWord(sort);
            if (line == NONE) {
                noTextGoesOn();
                return;
            }
            int first = tokens.first;
            tokens.step();
            for (int i = 0; i < NUMBERS[line]; i++) {
                if (tokens.kind != Tokens.NUMBER) {
                    noTextGoesOn();
                    return;
                }
                number[i] = tokens.value;
                numberPlace[i] = tokens.first;
                tokens.step();
            }
            if (tokens.kind != Tokens.SEMICOLON) {
                noTextGoesOn();
                return;
            }
            tokens.step();
            if (room(line) <= 0) {
                noteFault(3, first);
            }
            checkNumbers(line);
            if (fault == 0) {
                keepLine(line);
            }
        }

        private int lineByWord(int sort) {
            if (sort == RAILS) {
                return railLineByWord();
            }
            if (sort == LOGS) {
                return tokens.isWord("seen") ? SEEN : NONE;
            }
            if (tokens.isWord("ride")) {
                return FIRST_DEED + RIDE;
            }
            if (tokens.isWord("wait")) {
                return FIRST_DEED + WAIT;
            }
            return tokens.isWord("mark") ? FIRST_DEED + MARK : NONE;
        }

        private int railLineByWord() {
            if (tokens.isWord("lands")) {
                return LANDS;
            }
            if (tokens.isWord("train")) {
                return TRAIN;
            }
            if (tokens.isWord("permit")) {
                return PERMIT;
            }
            if (tokens.isWord("needs")) {
                return NEEDS;
            }
            if (tokens.isWord("law")) {
                return LAW;
            }
            return tokens.isWord("clerk") ? CLERK : NONE;
        }

        /** FAULT 1 goes before all others, wherever they are. */
        private void noTextGoesOn() {
            fault = 1;
            place = tokens.first;
        }

        private void noteFault(int which, int where) {
            if (fault == 0) {
                fault = which;
                place = where;
            }
        }

        /** How many more of what a line tells there can be. */
        private int room(int line) {
            switch (line) {
                case LANDS: return 1;
                case TRAIN: return MOST_TRAINS - rail.trains;
                case PERMIT: return MOST_PERMITS - rail.permits;
                case NEEDS: return 1;
                case LAW: return MOST_LAWS - rail.laws;
                case CLERK: return MOST_CLERKS - rail.clerks;
                case SEEN: return log.room();
                default: return month.room();
            }
        }

        private void checkNumbers(int line) {
            boolean unlike = line == TRAIN || line == LAW;
            for (int i = 0; i < NUMBERS[line]; i++) {
                int n = number[i];
                boolean inside = n >= LEAST[line * MOST_NUMBERS + i] && n <= MOST[line * MOST_NUMBERS + i];
                if (!inside || unlike && i == 1 && n == number[0]) {
                    noteFault(2, numberPlace[i]);
                }
            }
        }

        private void keepLine(int line) {
            switch (line) {
                case LANDS: rail.lands = number[0]; break;
                case TRAIN: keepTrain(); break;
                case PERMIT: keepPermit(); break;
                case NEEDS: keepNeed(); break;
                case LAW: keepLaw(); break;
                case CLERK: keepClerk(); break;
                case SEEN: keepSight(); break;
                default: keepDeed(line - FIRST_DEED); break;
            }
        }

        private void keepTrain() {
            rail.from[rail.trains] = number[0];
            rail.to[rail.trains] = number[1];
            rail.leaves[rail.trains] = number[2];
            rail.takes[rail.trains] = number[3];
            rail.trains++;
            landTold = Math.max(landTold, Math.max(number[0], number[1]));
        }

        private void keepPermit() {
            rail.place[rail.permits] = number[0];
            rail.permits++;
            landTold = Math.max(landTold, number[0]);
        }

        private void keepNeed() {
            rail.needs[number[0]] |= 1 << number[1];
            permitTold = Math.max(permitTold, number[0]);
            landTold = Math.max(landTold, number[1]);
        }

        private void keepLaw() {
            rail.whose[rail.laws] = number[0];
            rail.behind[rail.laws] = number[1];
            rail.laws++;
            landTold = Math.max(landTold, Math.max(number[0], number[1]));
        }

        private void keepClerk() {
            rail.home[rail.clerks] = number[0];
            rail.start[rail.clerks] = number[1];
            rail.clerks++;
            landTold = Math.max(landTold, Math.max(number[0], number[1]));
        }

        private void keepDeed(int kind) {
            month.put(month.rows, 0, kind);
            month.put(month.rows, 1, number[0]);
            month.put(month.rows, 2, number[1]);
            month.rows++;
        }

        private void keepSight() {
            log.put(log.rows, 0, number[0]);
            log.put(log.rows, 1, number[1]);
            log.rows++;
        }

        private void checkRail(int end) {
            if (landTold >= rail.lands || permitTold >= rail.permits) {
                noteFault(4, end);
            }
            for (int permit = 0; permit < rail.permits; permit++) {
                if (has(rail.needs[permit], rail.place[permit])) {
                    noteFault(5, end);
                }
            }
        }
    }

    /** A MONTH of a RAIL as it goes by: where each CLERK is, his HOUR, what is MARKED. */
    private static final class Course {
        private static final int MULTIPLIER = 1103515245;
        private static final int INCREMENT = 12345;

        private final int[] at = new int[MOST_CLERKS];
        private final int[] hour = new int[MOST_CLERKS];
        private final int[] marked = new int[MOST_CLERKS];
        private final int[] ridden = new int[MOST_CLERKS];
        private final int[] waited = new int[MOST_CLERKS];
        private final int[] marks = new int[MOST_PERMITS];
        /** By PERMIT and LAND, worth something only where marks has the LAND. */
        private final int[] markHour = new int[MOST_PERMITS * MOST_LANDS];
        private boolean finished = false;
        private int seed = 0;
        private int firstDone = NONE;

        private void begin(Rail rail) {
            for (int clerk = 0; clerk < MOST_CLERKS; clerk++) {
                at[clerk] = rail.start[clerk];
                hour[clerk] = 0;
                marked[clerk] = 0;
                ridden[clerk] = 0;
                waited[clerk] = 0;
            }
            for (int permit = 0; permit < MOST_PERMITS; permit++) {
                marks[permit] = 0;
            }
            finished = false;
            firstDone = NONE;
        }

        /** Does the first DEEDS, at most so many, up to END: how many were done. */
        int runMonth(Rail rail, Sheet month, int most) {
            begin(rail);
            int deeds = Math.min(month.rows, most);
            for (int k = 0; k < deeds; k++) {
                if (!perform(rail, month.at(k, 0), month.at(k, 1), month.at(k, 2))) {
                    return k;
                }
                if (finished && firstDone == NONE) {
                    firstDone = k;
                }
            }
            return deeds;
        }

        void runSeed(Rail rail, int firstSeed, int turns) {
            begin(rail);
            seed = firstSeed;
            for (int turn = 0; turn < turns; turn++) {
                drawTurn(rail);
            }
        }

        private void drawTurn(Rail rail) {
            int choice = draw(8);
            if (rail.clerks == 0) {
                return;
            }
            int clerk = draw(rail.clerks);
            if (choice < 3) {
                if (rail.trains > 0) {
                    perform(rail, RIDE, clerk, draw(rail.trains));
                }
            } else if (choice < 7) {
                if (rail.permits > 0) {
                    perform(rail, MARK, clerk, draw(rail.permits));
                }
            } else {
                perform(rail, WAIT, clerk, 1 + draw(12));
            }
        }

        private int draw(int below) {
            seed = seed * MULTIPLIER + INCREMENT;
            return below < 1 ? 0 : (seed >>> 16) % below;
        }

        /** Does a DEED, if it can be: whether it could. */
        private boolean perform(Rail rail, int kind, int clerk, int object) {
            if (clerk >= rail.clerks) {
                return false;
            }
            switch (kind) {
                case RIDE: return tryRide(rail, clerk, object);
                case WAIT: return tryWait(clerk, object);
                default: return tryMark(rail, clerk, object);
            }
        }

        private boolean tryRide(Rail rail, int clerk, int train) {
            if (train >= rail.trains || rail.from[train] != at[clerk]) {
                return false;
            }
            int there = rail.nextArrival(train, hour[clerk]);
            if (there > LAST_HOUR_OF_A_MONTH) {
                return false;
            }
            ridden[clerk] += rail.takes[train];
            waited[clerk] += there - rail.takes[train] - hour[clerk];
            hour[clerk] = there;
            at[clerk] = rail.to[train];
            return true;
        }

        private boolean tryWait(int clerk, int hours) {
            if (hour[clerk] + hours > LAST_HOUR_OF_A_MONTH) {
                return false;
            }
            hour[clerk] += hours;
            waited[clerk] += hours;
            return true;
        }

        private boolean tryMark(Rail rail, int clerk, int permit) {
            if (permit >= rail.permits || !mayMark(rail, clerk, permit)) {
                return false;
            }
            int land = rail.home[clerk];
            marks[permit] |= 1 << land;
            markHour[permit * MOST_LANDS + land] = hour[clerk];
            hour[clerk]++;
            marked[clerk]++;
            finished = finished || marks[permit] == rail.needs[permit];
            return true;
        }

        private boolean mayMark(Rail rail, int clerk, int permit) {
            int land = rail.home[clerk];
            return rail.place[permit] == at[clerk]
                && has(rail.needs[permit], land)
                && !has(marks[permit], land)
                && hour[clerk] < LAST_HOUR_OF_A_MONTH
                && lawsKept(rail, clerk, permit);
        }

        private boolean lawsKept(Rail rail, int clerk, int permit) {
            for (int law = 0; law < rail.laws; law++) {
                int other = rail.behind[law];
                if (rail.whose[law] == rail.home[clerk] && has(rail.needs[permit], other)) {
                    boolean before = has(marks[permit], other)
                        && markHour[permit * MOST_LANDS + other] <= hour[clerk];
                    if (!before) {
                        return false;
                    }
                }
            }
            return true;
        }

        int answer(Rail rail, int what) {
            if (what < 0) {
                return NO_SUCH;
            }
            if (what >= 100) {
                return answerMarkHour(rail, (what - 100) / 10, what % 10);
            }
            int k = what % 10;
            switch (what / 10) {
                case 0: return answerAll(rail, k);
                case 1: return k < rail.clerks ? at[k] : NO_SUCH;
                case 2: return k < rail.clerks ? hour[k] : NO_SUCH;
                case 3: return k < rail.clerks ? marked[k] : NO_SUCH;
                case 4: return k < rail.permits ? marks[k] : NO_SUCH;
                default: return NO_SUCH;
            }
        }

        private int answerAll(Rail rail, int what) {
            switch (what) {
                case 0: return howManyMarks(rail);
                case 1: return donePermits(rail);
                case 2: return latestClerk(rail);
                default: return NO_SUCH;
            }
        }

        private int answerMarkHour(Rail rail, int permit, int land) {
            if (permit >= rail.permits || land >= rail.lands) {
                return NO_SUCH;
            }
            return has(marks[permit], land) ? markHour[permit * MOST_LANDS + land] : NONE;
        }

        private int howManyMarks(Rail rail) {
            int many = 0;
            for (int permit = 0; permit < rail.permits; permit++) {
                many += Integer.bitCount(marks[permit]);
            }
            return many;
        }

        private int donePermits(Rail rail) {
            int done = 0;
            for (int permit = 0; permit < rail.permits; permit++) {
                if (marks[permit] == rail.needs[permit]) {
                    done |= 1 << permit;
                }
            }
            return done;
        }

        private int latestClerk(Rail rail) {
            int latest = 0;
            for (int clerk = 0; clerk < rail.clerks; clerk++) {
                latest = Math.max(latest, hour[clerk]);
            }
            return latest;
        }

        int answerAfter(Rail rail, int what) {
            if (what == 0) {
                return firstDone;
            }
            int clerk = what % 10;
            if (what < 10 || clerk >= rail.clerks) {
                return NO_SUCH;
            }
            switch (what / 10) {
                case 1: return openPermits(rail, clerk);
                case 2: return ridden[clerk];
                case 3: return waited[clerk];
                default: return NO_SUCH;
            }
        }

        private int openPermits(Rail rail, int clerk) {
            int open = 0;
            for (int permit = 0; permit < rail.permits; permit++) {
                if (mayMark(rail, clerk, permit)) {
                    open |= 1 << permit;
                }
            }
            return open;
        }
    }

    /** Where one comes by which HOUR, also when TRAINS are taken away. */
    private static final class Ways {
        /** By LAND, as spread() has left it. */
        final int[] there = new int[MOST_LANDS];

        /**
         * The soonest HOUR in each LAND from a LAND at an HOUR, some TRAINS (bits) being away.
         * To come sooner is never to leave later, so ways without a LAND twice are enough.
         */
        void spread(Rail rail, int from, int hour, int away) {
            for (int land = 0; land < MOST_LANDS; land++) {
                there[land] = NEVER;
            }
            there[from] = hour;
            boolean sooner = true;
            for (int step = 1; step < rail.lands && sooner; step++) {
                sooner = false;
                for (int train = 0; train < rail.trains; train++) {
                    int here = there[rail.from[train]];
                    if (here != NEVER && !has(away, train)) {
                        int arrival = rail.nextArrival(train, here);
                        if (arrival < there[rail.to[train]]) {
                            there[rail.to[train]] = arrival;
                            sooner = true;
                        }
                    }
                }
            }
        }

        /** SOONEST, or NEVER. How long it takes hangs on the HOUR of the DAY alone, so a row for each is kept. */
        int arrival(Rail rail, int from, int hour, int to) {
            int part = Math.floorMod(hour, DAY);
            int row = (from * DAY + part) * MOST_LANDS;
            if (!has(rail.rowsKnown[from], part)) {
                spread(rail, from, part, 0);
                for (int land = 0; land < MOST_LANDS; land++) {
                    rail.rows[row + land] = there[land] == NEVER ? NEVER : there[land] - part;
                }
                rail.rowsKnown[from] |= 1 << part;
            }
            int hours = rail.rows[row + to];
            return hours == NEVER ? NEVER : hour + hours;
        }

        int firstTrain(Rail rail, int from, int hour, int to) {
            if (from == to) {
                return NONE;
            }
            int best = arrival(rail, from, hour, to);
            for (int train = 0; train < rail.trains; train++) {
                if (rail.from[train] == from) {
                    int next = rail.nextArrival(train, hour);
                    if (arrival(rail, rail.to[train], next, to) == best) {
                        return train;
                    }
                }
            }
            return NONE;
        }

        int latestHour(Rail rail, int from, int to, int by) {
            for (int hour = by; hour >= 0; hour--) {
                if (arrival(rail, from, hour, to) <= by) {
                    return hour;
                }
            }
            return NONE;
        }

        /** The least HOUR at which CLERKS (bits) can stand in one LAND, or that LAND. */
        int gathering(Rail rail, int clerks, boolean wantLand) {
            int soonest = NEVER;
            int where = NONE;
            for (int land = 0; land < rail.lands; land++) {
                int last = 0;
                for (int clerk = 0; clerk < rail.clerks; clerk++) {
                    if (has(clerks, clerk)) {
                        last = Math.max(last, arrival(rail, rail.start[clerk], 0, land));
                    }
                }
                if (last < soonest) {
                    soonest = last;
                    where = land;
                }
            }
            if (soonest == NEVER) {
                return NONE;
            }
            return wantLand ? where : soonest;
        }

        int bestOffices(Rail rail, int howMany, boolean wantHours) {
            int least = NEVER;
            int best = NONE;
            for (int bits = 1; bits < 1 << rail.lands; bits++) {
                if (Integer.bitCount(bits) == howMany) {
                    int hours = hoursToOffices(rail, bits);
                    if (hours < least) {
                        least = hours;
                        best = bits;
                    }
                }
            }
            if (least == NEVER) {
                return NONE;
            }
            return wantHours ? least : best;
        }

        private int hoursToOffices(Rail rail, int offices) {
            int together = 0;
            for (int land = 0; land < rail.lands; land++) {
                int nearest = NEVER;
                for (int office = 0; office < rail.lands; office++) {
                    if (has(offices, office)) {
                        nearest = Math.min(nearest, arrival(rail, land, 0, office));
                    }
                }
                if (nearest == NEVER) {
                    return NEVER;
                }
                together += nearest;
            }
            return together;
        }

        int widest(Rail rail) {
            int widest = 0;
            for (int from = 0; from < rail.lands; from++) {
                for (int to = 0; to < rail.lands; to++) {
                    int hours = arrival(rail, from, 0, to);
                    if (hours != NEVER) {
                        widest = Math.max(widest, hours);
                    }
                }
            }
            return widest;
        }

        int cutTrains(Rail rail, int times, int from, int to, boolean wantFirst) {
            if (times == 0) {
                return wantFirst ? NONE : hoursWithout(rail, from, to, 0);
            }
            int latest = NONE;
            int taken = NO_TRAIN_TAKEN;
            for (int train = 0; train < rail.trains; train++) {
                int hour = hoursBehindFirst(rail, times, from, to, 1 << train);
                if (hour > latest) {
                    latest = hour;
                    taken = train;
                }
            }
            int untaken = hoursBehindFirst(rail, times, from, to, 0);
            if (untaken > latest) {
                latest = untaken;
                taken = NO_TRAIN_TAKEN;
            }
            return wantFirst ? taken : latest;
        }

        /**
         * What it comes to when the first minister has taken his first TRAIN (bits).
         * A TRAIN less never makes it sooner: the other minister does best by taking none.
         */
        private int hoursBehindFirst(Rail rail, int times, int from, int to, int away) {
            int latest = hoursWithout(rail, from, to, away);
            if (times < 3) {
                return latest;
            }
            for (int train = 0; train < rail.trains; train++) {
                latest = Math.max(latest, hoursWithout(rail, from, to, away | 1 << train));
            }
            return latest;
        }

        private int hoursWithout(Rail rail, int from, int to, int away) {
            spread(rail, from, 0, away);
            return Math.min(there[to], NEVER_TOLD);
        }

        int keyTrain(Rail rail, boolean wantHours) {
            int key = NONE;
            int most = NONE;
            for (int train = 0; train < rail.trains; train++) {
                int together = allHoursWithout(rail, 1 << train);
                if (together > most) {
                    most = together;
                    key = train;
                }
            }
            return wantHours ? most : key;
        }

        private int allHoursWithout(Rail rail, int away) {
            int together = 0;
            for (int from = 0; from < rail.lands; from++) {
                spread(rail, from, 0, away);
                for (int to = 0; to < rail.lands; to++) {
                    together += Math.min(there[to], NEVER_TOLD);
                }
            }
            return together;
        }

        /** If one is there as soon without a TRAIN when it leaves, every way by it can do without it. */
        int spareTrains(Rail rail) {
            int spare = 0;
            for (int train = 0; train < rail.trains; train++) {
                int leave = rail.leaves[train];
                spread(rail, rail.from[train], leave, 1 << train);
                if (there[rail.to[train]] <= leave + rail.takes[train]) {
                    spare |= 1 << train;
                }
            }
            return spare;
        }
    }

    /** ROUND: every order of the LANDS with a CLERK's DUTY, by numbers. */
    private static final class Rounds {
        private final Ways ways = new Ways();
        /** By LAND, how many PERMITS of the DUTY are in it. */
        private final int[] work = new int[MOST_LANDS];
        private final int[] row = new int[MOST_LANDS];
        private final int[] bestRow = new int[MOST_LANDS];
        private int stops = 0;
        private int best = NEVER;

        void go(Rail rail, int clerk) {
            int duty = rail.dutyOf(clerk);
            int left = 0;
            for (int land = 0; land < MOST_LANDS; land++) {
                work[land] = 0;
            }
            for (int permit = 0; permit < rail.permits; permit++) {
                if (has(duty, permit)) {
                    work[rail.place[permit]]++;
                    left |= 1 << rail.place[permit];
                }
            }
            stops = Integer.bitCount(left);
            best = NEVER;
            visit(rail, left, 0, rail.start[clerk], 0);
        }

        /** The rows come by numbers, so the first of the best is met first; HOURS only grow along a row. */
        private void visit(Rail rail, int left, int depth, int land, int hour) {
            if (hour >= best || depth > MOST_LANDS) {
                return;
            }
            if (left == 0) {
                best = hour;
                System.arraycopy(row, 0, bestRow, 0, MOST_LANDS);
                return;
            }
            for (int next = 0; next < rail.lands && depth < MOST_LANDS; next++) {
                if (has(left, next)) {
                    int there = ways.arrival(rail, land, hour, next);
                    if (there != NEVER) {
                        row[depth] = next;
                        visit(rail, left & ~(1 << next), depth + 1, next, there + work[next]);
                    }
                }
            }
        }

        int answer(int k) {
            if (best == NEVER) {
                return NONE;
            }
            if (k == NONE) {
                return best;
            }
            return k >= 0 && k < stops ? bestRow[k] : NONE;
        }
    }

    /** PERMITS by the LAWS, and by the CLERKS who can come to them. */
    private static final class Papers {
        private final Ways ways = new Ways();
        private final int[] orders = new int[1 << MOST_LANDS];

        /** LANDS (bits) of needs whose MARK the LAWS want before the one of a LAND. */
        private static int before(Rail rail, int needs, int land) {
            int bits = 0;
            for (int law = 0; law < rail.laws; law++) {
                if (rail.whose[law] == land) {
                    bits |= 1 << rail.behind[law];
                }
            }
            return bits & needs;
        }

        /** The least LAND of needs whose MARK can be made when some (bits) are, or NONE. */
        private static int nextMark(Rail rail, int needs, int made) {
            for (int land = 0; land < rail.lands; land++) {
                if (has(needs & ~made, land) && (before(rail, needs, land) & ~made) == 0) {
                    return land;
                }
            }
            return NONE;
        }

        private static boolean orderly(Rail rail, int needs) {
            int made = 0;
            for (int step = 0; step < MOST_LANDS && made != needs; step++) {
                int next = nextMark(rail, needs, made);
                if (next == NONE) {
                    return false;
                }
                made |= 1 << next;
            }
            return true;
        }

        int howManyOrders(Rail rail, int permit) {
            int needs = rail.needs[permit];
            for (int made = 0; made <= needs; made++) {
                orders[made] = 0;
            }
            orders[0] = 1;
            for (int made = 0; made < needs; made++) {
                if (orders[made] > 0) {
                    countNextMarks(rail, needs, made);
                }
            }
            return orders[needs];
        }

        private void countNextMarks(Rail rail, int needs, int made) {
            for (int land = 0; land < rail.lands; land++) {
                if (has(needs & ~made, land) && (before(rail, needs, land) & ~made) == 0) {
                    orders[made | 1 << land] += orders[made];
                }
            }
        }

        int firstOrder(Rail rail, int permit, int k) {
            int needs = rail.needs[permit];
            if (k < 0 || k >= Integer.bitCount(needs) || !orderly(rail, needs)) {
                return NONE;
            }
            int made = 0;
            int mark = NONE;
            for (int i = 0; i <= k; i++) {
                mark = nextMark(rail, needs, made);
                if (mark != NONE) {
                    made |= 1 << mark;
                }
            }
            return mark;
        }

        int stuckPermits(Rail rail) {
            int stuck = 0;
            for (int permit = 0; permit < rail.permits; permit++) {
                if (!orderly(rail, rail.needs[permit])) {
                    stuck |= 1 << permit;
                }
            }
            return stuck;
        }

        /** The HOUR at which the soonest CLERK of a LAND can be in a place, or NEVER. */
        private int soonestClerk(Rail rail, int land, int place) {
            int soonest = NEVER;
            for (int clerk = 0; clerk < rail.clerks; clerk++) {
                if (rail.home[clerk] == land) {
                    soonest = Math.min(soonest, ways.arrival(rail, rail.start[clerk], 0, place));
                }
            }
            return soonest;
        }

        int lackedMarks(Rail rail, int permit) {
            int lacked = 0;
            for (int land = 0; land < rail.lands; land++) {
                if (has(rail.needs[permit], land) && soonestClerk(rail, land, rail.place[permit]) == NEVER) {
                    lacked |= 1 << land;
                }
            }
            return lacked;
        }

        /**
         * READY of a PERMIT, if it were in a place, or NEVER. A MARK waits for those before it at most, and may be
         * made in their HOUR: so the last MARK is made when the last CLERK has come.
         */
        int readyHour(Rail rail, int permit, int place) {
            int needs = rail.needs[permit];
            if (!orderly(rail, needs)) {
                return NEVER;
            }
            int last = 0;
            for (int land = 0; land < rail.lands; land++) {
                if (has(needs, land)) {
                    last = Math.max(last, soonestClerk(rail, land, place));
                }
            }
            return last;
        }

        int bestPlace(Rail rail, int permit, boolean wantHour) {
            int soonest = NEVER;
            int best = NONE;
            for (int land = 0; land < rail.lands; land++) {
                if (!has(rail.needs[permit], land)) {
                    int ready = readyHour(rail, permit, land);
                    if (ready < soonest) {
                        soonest = ready;
                        best = land;
                    }
                }
            }
            return wantHour && best != NONE ? soonest : best;
        }
    }

    /** Which LAND asks which, and the RINGS of it. */
    private static final class Asking {
        private final int[] asks = new int[MOST_LANDS];

        int answer(Rail rail, int what) {
            for (int land = 0; land < MOST_LANDS; land++) {
                asks[land] = 0;
            }
            for (int permit = 0; permit < rail.permits; permit++) {
                asks[rail.place[permit]] |= rail.needs[permit];
            }
            if (what == 0) {
                return shortestRing(rail.lands);
            }
            if (what == 1) {
                return fewestToBreak(rail.lands);
            }
            return what >= 10 && what < 10 + rail.lands ? asks[what - 10] : NO_SUCH;
        }

        private int shortestRing(int lands) {
            for (int steps = 2; steps <= lands; steps++) {
                for (int land = 0; land < lands; land++) {
                    if (has(askedBehind(lands, land, steps), land)) {
                        return steps;
                    }
                }
            }
            return NONE;
        }

        /** LANDS (bits) that are asked at the end of so many askings, one behind the other. */
        private int askedBehind(int lands, int land, int steps) {
            int asked = 1 << land;
            for (int step = 0; step < steps; step++) {
                int next = 0;
                for (int one = 0; one < lands; one++) {
                    if (has(asked, one)) {
                        next |= asks[one];
                    }
                }
                asked = next;
            }
            return asked;
        }

        private int fewestToBreak(int lands) {
            int all = (1 << lands) - 1;
            int best = all;
            for (int gone = 0; gone <= all; gone++) {
                if (Integer.bitCount(gone) < Integer.bitCount(best) && ringless(lands, all & ~gone)) {
                    best = gone;
                }
            }
            return best;
        }

        /** Whether LANDS (bits) that ask none of those left can be put aside until none is left. */
        private boolean ringless(int lands, int among) {
            int left = among;
            for (int step = 0; step < lands && left != 0; step++) {
                for (int land = 0; land < lands; land++) {
                    if (has(left, land) && (asks[land] & left) == 0) {
                        left &= ~(1 << land);
                    }
                }
            }
            return left == 0;
        }
    }

    /** Where a CLERK could stand at each HOUR, by a LOG of a RAIL. */
    private static final class Traces {
        final int[] could = new int[HOURS];
        /** By HOUR: the LAND that was seen, or NONE; the next HOUR of a SIGHT behind it, or NEVER. */
        private final int[] seen = new int[HOURS];
        private final int[] nextSeen = new int[HOURS];
        private final int[] came = new int[HOURS];
        private final int[] goesOn = new int[HOURS];
        private int all = 0;

        /** Whether it can be as seen. */
        boolean follow(Rail rail, Sheet log) {
            all = (1 << rail.lands) - 1;
            if (!noteSights(rail, log)) {
                return false;
            }
            lookForward(rail);
            lookBack(rail);
            for (int hour = 0; hour < HOURS; hour++) {
                could[hour] = came[hour] & goesOn[hour];
            }
            return could[0] != 0;
        }

        private boolean noteSights(Rail rail, Sheet log) {
            for (int hour = 0; hour < HOURS; hour++) {
                seen[hour] = NONE;
            }
            for (int k = 0; k < log.rows; k++) {
                int land = log.at(k, 0);
                int hour = log.at(k, 1);
                boolean twoLands = seen[hour] != NONE && seen[hour] != land;
                if (land >= rail.lands || twoLands) {
                    return false;
                }
                seen[hour] = land;
            }
            int next = NEVER;
            for (int hour = HOURS - 1; hour >= 0; hour--) {
                nextSeen[hour] = next;
                if (seen[hour] != NONE) {
                    next = hour;
                }
            }
            return true;
        }

        private int allowed(int hour) {
            return seen[hour] == NONE ? all : 1 << seen[hour];
        }

        /** He may not sit in a TRAIN at the HOUR of a SIGHT. */
        private boolean rides(Rail rail, int train, int hour) {
            return rail.leaves[train] == hour % DAY && hour + rail.takes[train] <= nextSeen[hour];
        }

        private void lookForward(Rail rail) {
            for (int hour = 1; hour < HOURS; hour++) {
                came[hour] = 0;
            }
            came[0] = all;
            for (int hour = 0; hour < HOURS; hour++) {
                if (hour > 0) {
                    came[hour] |= came[hour - 1];
                }
                came[hour] &= allowed(hour);
                for (int train = 0; train < rail.trains; train++) {
                    if (has(came[hour], rail.from[train]) && rides(rail, train, hour)) {
                        int arrival = hour + rail.takes[train];
                        if (arrival < HOURS) {
                            came[arrival] |= 1 << rail.to[train];
                        }
                    }
                }
            }
        }

        private void lookBack(Rail rail) {
            for (int hour = HOURS - 1; hour >= 0; hour--) {
                int bits = hour + 1 < HOURS ? goesOn[hour + 1] : all;
                for (int train = 0; train < rail.trains; train++) {
                    if (rides(rail, train, hour)) {
                        int arrival = hour + rail.takes[train];
                        if (arrival >= HOURS || has(goesOn[arrival], rail.to[train])) {
                            bits |= 1 << rail.from[train];
                        }
                    }
                }
                goesOn[hour] = bits & allowed(hour);
            }
        }

        int freeHours() {
            int free = 0;
            for (int hour = 0; hour < HOURS; hour++) {
                if (Integer.bitCount(could[hour]) != 1) {
                    free++;
                }
            }
            return free;
        }

        int certainHours(boolean wantFirst) {
            int most = 0;
            int first = NONE;
            int run = 0;
            for (int hour = 0; hour < HOURS; hour++) {
                if (Integer.bitCount(could[hour]) != 1) {
                    run = 0;
                } else if (hour > 0 && could[hour] == could[hour - 1]) {
                    run++;
                } else {
                    run = 1;
                }
                if (run > most) {
                    most = run;
                    first = hour - run + 1;
                }
            }
            return wantFirst ? first : most;
        }
    }
}
