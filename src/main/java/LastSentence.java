import java.util.Arrays;

/** An old house whose rooms go, each night, to whoever's words were the last said in them. */
public final class LastSentence {
    public static final int NONE = -1, UNKNOWN = -1000000001, OUTSIDE = -1000000002, NOT = -1000000003, FULL = -1000000004;

    private static final int MOST_LETTERS = 240;
    private static final int MOST_ROOMS = 6;
    private static final int MOST_DOORS = 8;
    private static final int MOST_HEIRS = 6;
    private static final int MOST_HOURS = 20;
    private static final int MOST_THICK = 9;
    private static final int MOST_VOICE = 20;
    private static final int MOST_FIGURES = 3;
    private static final int MOST_SEEN = 6;
    private static final int MOST_ENTRIES = 20;
    private static final int MOST_UNDONE = 30;
    private static final int MOST_SAYINGS = 90000;
    private static final int MOST_NIGHTS = 9000;
    private static final int MOST_QUIET = 60;
    private static final int HUNDRED = 100;
    private static final int BILLION = 1000000000;
    private static final int IMAGES = 2;
    private static final int NO_WAY = 99;

    private static final int ASLEEP = 1;
    private static final int TAUGHT = 2;
    private static final int WRITES = 3;
    private static final int PARROT = 4;

    private static final int READINGS = 4;
    private static final int AS_TOLD = 0;
    private static final int NOT_THROUGH_DOORS = 1;
    private static final int NOT_EARLY = 2;
    private static final int TAUGHT_FOR_THEMSELVES = 3;

    private static final int FAULT_BASE = -10;
    private static final int CANNOT_STAND = 1;
    private static final int BAD_NUMBER = 2;
    private static final int TOO_MANY = 3;
    private static final int SAME_ROOM = 4;

    /** At b: the SETS below 64 that lack bit b, as one number with bit m for the SET m. */
    private static final long[] LACKING = {
        0x5555555555555555L, 0x3333333333333333L, 0x0f0f0f0f0f0f0f0fL,
        0x00ff00ff00ff00ffL, 0x0000ffff0000ffffL, 0x00000000ffffffffL
    };

    private final Text text = new Text();
    private House house = new House();
    /** What the next text is read into, so that a fault leaves the house as it was. */
    private House draft = new House();
    private final Night night = new Night();
    private final Trail trail = new Trail();
    private final Night[] images = new Night[IMAGES];
    private final int[] imageSeeds = new int[IMAGES];
    private final boolean[] kept = new boolean[IMAGES];
    private final Planner planner = new Planner();
    private final Seen seen = new Seen();
    private final Book book = new Book();
    private int drawSeed = 0;
    private int latestFault = NONE;

    public LastSentence() {
        for (int i = 0; i < IMAGES; i++) {
            images[i] = new Night();
        }
    }

    // ---- the manor

    public int feed(int letter) {
        if (letter < 0 || letter > 255) {
            return OUTSIDE;
        }
        return text.append(letter) ? text.length : FULL;
    }

    public int manor() {
        text.readInto(draft);
        text.length = 0;
        latestFault = text.faultAt;
        if (text.faultKind != 0) {
            return FAULT_BASE - text.faultKind;
        }
        House former = house;
        house = draft;
        draft = former;
        house.measure();
        night.begin(house);
        trail.clear();
        forgetImages();
        seen.count = 0;
        book.count = 0;
        return house.heirs;
    }

    public int fault() {
        return latestFault;
    }

    public int told(int what) {
        switch (what) {
            case 0: return house.nightHours;
            case 1: return house.rooms;
            case 2: return house.doors;
            case 3: return house.heirs;
            case 4: return text.length;
            case 5: return night.hours;
            case 6: return night.nights;
            case 7: return night.sayings;
            case 8: return night.litAt(house, night.hours);
            case 9: return night.sure(house);
            case 10: return night.holder(house);
            case 11: return seen.count;
            case 12: return book.count;
            case 13: return trail.count;
            default: return OUTSIDE;
        }
    }

    public int room(int r, int what) {
        if (!house.hasRoom(r)) {
            return UNKNOWN;
        }
        switch (what) {
            case 0: return night.burns[r];
            case 1: return night.isOut(r) ? 1 : 0;
            case 2: return night.owner[r];
            case 3: return night.last[AS_TOLD][r];
            case 4: return night.will(r, AS_TOLD);
            case 5: return night.worth(house, r);
            default: return OUTSIDE;
        }
    }

    public int door(int d, int what) {
        if (!house.hasDoor(d)) {
            return UNKNOWN;
        }
        switch (what) {
            case 0: return house.oneSide[d];
            case 1: return house.otherSide[d];
            case 2: return house.thick[d];
            default: return OUTSIDE;
        }
    }

    public int heir(int p, int what) {
        if (!house.hasHeir(p)) {
            return UNKNOWN;
        }
        switch (what) {
            case 0: return house.kind[p];
            case 1: return house.voice[p];
            case 2: return night.place[p];
            case 3: return night.hears(house, p);
            case 4: return night.counts(house, p);
            case 5: return night.holdings(house, p);
            default: return OUTSIDE;
        }
    }

    // ---- deeds

    public int say(int p) {
        if (!house.hasHeir(p)) {
            return UNKNOWN;
        }
        if (night.sayings >= MOST_SAYINGS) {
            return FULL;
        }
        trail.remember(night);
        int counts = night.counts(house, p);
        night.speak(house, p);
        return counts;
    }

    public int go(int p, int d) {
        if (!house.hasHeir(p) || !house.hasDoor(d)) {
            return UNKNOWN;
        }
        int behind = house.behind(d, night.place[p]);
        if (behind == NONE) {
            return NOT;
        }
        trail.remember(night);
        night.place[p] = behind;
        return behind;
    }

    public int hour(int n) {
        int refusal = refusalOfHours(n);
        if (refusal != 0) {
            return refusal;
        }
        for (int i = 0; i < n; i++) {
            trail.remember(night);
            night.passHour(house);
        }
        return night.hours;
    }

    public int out(int r) {
        if (!house.hasRoom(r)) {
            return UNKNOWN;
        }
        if (night.isOut(r)) {
            return NOT;
        }
        trail.remember(night);
        int was = night.isLitAt(r, night.hours) ? 1 : 0;
        night.putOut(r);
        return was;
    }

    public int light(int r) {
        if (!house.hasRoom(r)) {
            return UNKNOWN;
        }
        if (!night.isOut(r)) {
            return NOT;
        }
        trail.remember(night);
        night.lightAgain(r);
        return night.isLitAt(r, night.hours) ? 1 : 0;
    }

    public int candle(int r, int c) {
        if (!house.hasRoom(r)) {
            return UNKNOWN;
        }
        if (c < 0 || c > MOST_HOURS) {
            return OUTSIDE;
        }
        trail.remember(night);
        int was = night.burns[r];
        night.burns[r] = c;
        return was;
    }

    public int drift(int n) {
        int refusal = refusalOfHours(n);
        if (refusal != 0) {
            return refusal;
        }
        for (int i = 0; i < n; i++) {
            trail.remember(night);
            actByDraw();
            night.passHour(house);
        }
        return night.hours;
    }

    public int undo(int n) {
        if (n < 1 || n > MOST_UNDONE) {
            return OUTSIDE;
        }
        if (n > trail.count) {
            return NOT;
        }
        trail.takeBack(n, night);
        return night.hours;
    }

    /** 0 if n HOURS may pass now. */
    private int refusalOfHours(int n) {
        if (n < 1 || n > MOST_HOURS) {
            return OUTSIDE;
        }
        if (house.nightHours == 0) {
            return NOT;
        }
        return night.nights > MOST_NIGHTS ? FULL : 0;
    }

    private void actByDraw() {
        if (house.heirs == 0) {
            return;
        }
        int act = draw(4);
        int p = draw(house.heirs);
        if (act <= 1) {
            night.speak(house, p);
        } else if (act == 2) {
            goByDraw(p);
        } else {
            night.putOut(night.place[p]);
        }
    }

    private void goByDraw(int p) {
        if (house.doors == 0) {
            return;
        }
        int behind = house.behind(draw(house.doors), night.place[p]);
        if (behind != NONE) {
            night.place[p] = behind;
        }
    }

    private int draw(int n) {
        drawSeed = (int) ((drawSeed * 1103515245L + 12345L) & 0x7fffffffL);
        return n > 0 ? drawSeed / 65536 % n : 0;
    }

    // ---- tried

    public int wall(int a, int b) {
        if (!house.hasRoom(a) || !house.hasRoom(b)) {
            return UNKNOWN;
        }
        return house.walls[a][b];
    }

    public int way(int a, int b) {
        if (!house.hasRoom(a) || !house.hasRoom(b)) {
            return UNKNOWN;
        }
        int doors = house.ways[a][b];
        return doors == NO_WAY ? NONE : doors;
    }

    public int fewest(int p, int set, int what) {
        if (!house.hasHeir(p) || !house.hasRooms(set)) {
            return UNKNOWN;
        }
        if (what < 0 || what > 1) {
            return OUTSIDE;
        }
        planner.plan(house, night, p, set);
        return what == 0 ? planner.fewestSayings : planner.latestHour;
    }

    public int reading(int r, int k) {
        if (!house.hasRoom(r)) {
            return UNKNOWN;
        }
        if (k < 0 || k >= READINGS) {
            return OUTSIDE;
        }
        return night.will(r, k);
    }

    public int quiet(int n, int q) {
        if (n < 0 || n > MOST_QUIET || q < 0 || q > HUNDRED) {
            return OUTSIDE;
        }
        long odds = BILLION;
        for (int i = 0; i < n; i++) {
            odds = odds * q / HUNDRED;
        }
        return (int) odds;
    }

    // ---- what is seen

    public int see(int r, boolean heard) {
        if (!house.hasRoom(r)) {
            return UNKNOWN;
        }
        return seen.append(r, heard) ? seen.count : FULL;
    }

    public int couldBe() {
        return seen.suspects(house, night);
    }

    public int ask() {
        return seen.bestRoom(house, night);
    }

    public int write(int r, int p) {
        if (!house.hasRoom(r) || p != NONE && !house.hasHeir(p)) {
            return UNKNOWN;
        }
        return book.append(r, p) ? book.count : FULL;
    }

    public int judge() {
        return book.firstWrong(night);
    }

    public int tear() {
        int had = seen.count + book.count;
        seen.count = 0;
        book.count = 0;
        return had;
    }

    // ---- images

    public int seed(int v) {
        if (v < 0) {
            return OUTSIDE;
        }
        int was = drawSeed;
        drawSeed = v;
        return was;
    }

    public int keep(int i) {
        if (i < 0 || i >= IMAGES) {
            return UNKNOWN;
        }
        images[i].copyFrom(night);
        imageSeeds[i] = drawSeed;
        kept[i] = true;
        trail.clear();
        return 1;
    }

    public int goBack(int i) {
        if (i < 0 || i >= IMAGES) {
            return UNKNOWN;
        }
        if (!kept[i]) {
            return NOT;
        }
        night.copyFrom(images[i]);
        drawSeed = imageSeeds[i];
        trail.clear();
        return 1;
    }

    private void forgetImages() {
        for (int i = 0; i < IMAGES; i++) {
            kept[i] = false;
        }
    }

    /** The letters of THE TEXT, and where reading them stands. */
    private static final class Text {
        final int[] letters = new int[MOST_LETTERS];
        int length = 0;
        int faultKind = 0;
        int faultAt = NONE;
        private int at = 0;

        boolean append(int letter) {
            if (length >= MOST_LETTERS) {
                return false;
            }
            letters[length] = letter;
            length++;
            return true;
        }

        void readInto(House house) {
            house.empty();
            faultKind = 0;
            faultAt = NONE;
            at = 0;
            skipBlanks();
            // a clause has a letter at least, so there are no more clauses than letters
            for (int i = 0; i < MOST_LETTERS && at < length && faultKind == 0; i++) {
                readClause(house);
                skipBlanks();
            }
        }

        private void readClause(House house) {
            int wordAt = at;
            int word = letters[wordAt];
            at++;
            if (word != 'n' && house.nightHours == 0) {
                fail(CANNOT_STAND, wordAt);
                return;
            }
            switch (word) {
                case 'n': readNight(house, wordAt); break;
                case 'r': readRoom(house, wordAt); break;
                case 'd': readDoor(house, wordAt); break;
                case 'p': readHeir(house, wordAt); break;
                default: fail(CANNOT_STAND, wordAt); break;
            }
        }

        private void readNight(House house, int wordAt) {
            failIf(house.nightHours != 0, TOO_MANY, wordAt);
            int hours = readNumber(1, MOST_HOURS);
            if (readEnd()) {
                house.nightHours = hours;
            }
        }

        private void readRoom(House house, int wordAt) {
            failIf(house.rooms >= MOST_ROOMS, TOO_MANY, wordAt);
            int burns = readNumber(0, MOST_HOURS);
            if (readEnd()) {
                house.addRoom(burns);
            }
        }

        private void readDoor(House house, int wordAt) {
            failIf(house.doors >= MOST_DOORS, TOO_MANY, wordAt);
            int a = readNumber(0, house.rooms - 1);
            skipBlanks();
            int secondAt = at;
            int b = readNumber(0, house.rooms - 1);
            failIf(a == b, SAME_ROOM, secondAt);
            int thick = readNumber(0, MOST_THICK);
            if (readEnd()) {
                house.addDoor(a, b, thick);
            }
        }

        private void readHeir(House house, int wordAt) {
            failIf(house.heirs >= MOST_HEIRS, TOO_MANY, wordAt);
            int kind = readNumber(0, PARROT);
            int voice = readNumber(1, MOST_VOICE);
            int room = readNumber(0, house.rooms - 1);
            if (readEnd()) {
                house.addHeir(kind, voice, room);
            }
        }

        /** The NUMBER that comes next, if it is one from low to high; else a FAULT at its first letter. */
        private int readNumber(int low, int high) {
            skipBlanks();
            int first = at;
            int value = 0;
            while (at < length && letters[at] >= '0' && letters[at] <= '9') {
                if (at - first < MOST_FIGURES) {
                    value = value * 10 + letters[at] - '0';
                }
                at++;
            }
            int figures = at - first;
            failIf(figures == 0, CANNOT_STAND, first);
            failIf(figures > MOST_FIGURES || value < low || value > high, BAD_NUMBER, first);
            return value;
        }

        /** Whether the clause ends here with no FAULT in it. */
        private boolean readEnd() {
            skipBlanks();
            failIf(at >= length || letters[at] != ';', CANNOT_STAND, at);
            at++;
            return faultKind == 0;
        }

        private void skipBlanks() {
            while (at < length && letters[at] == ' ') {
                at++;
            }
        }

        private void failIf(boolean wrong, int kind, int where) {
            if (wrong) {
                fail(kind, where);
            }
        }

        /** Faults come in the order of their letters, and at one letter the least first: the first stays. */
        private void fail(int kind, int where) {
            if (faultKind == 0) {
                faultKind = kind;
                faultAt = where;
            }
        }
    }

    /** THE MANOR as told. */
    private static final class House {
        /** 0: no MANOR. */
        int nightHours = 0;
        int rooms = 0;
        int doors = 0;
        int heirs = 0;
        final int[] burns = new int[MOST_ROOMS];
        final int[] oneSide = new int[MOST_DOORS];
        final int[] otherSide = new int[MOST_DOORS];
        final int[] thick = new int[MOST_DOORS];
        final int[] kind = new int[MOST_HEIRS];
        final int[] voice = new int[MOST_HEIRS];
        final int[] start = new int[MOST_HEIRS];
        final int[][] walls = new int[MOST_ROOMS][MOST_ROOMS];
        final int[][] ways = new int[MOST_ROOMS][MOST_ROOMS];

        void empty() {
            nightHours = 0;
            rooms = 0;
            doors = 0;
            heirs = 0;
        }

        void addRoom(int candleBurns) {
            if (rooms < MOST_ROOMS) {
                burns[rooms] = candleBurns;
                rooms++;
            }
        }

        void addDoor(int a, int b, int howThick) {
            if (doors < MOST_DOORS) {
                oneSide[doors] = a;
                otherSide[doors] = b;
                thick[doors] = howThick;
                doors++;
            }
        }

        void addHeir(int ofKind, int withVoice, int inRoom) {
            if (heirs < MOST_HEIRS) {
                kind[heirs] = ofKind;
                voice[heirs] = withVoice;
                start[heirs] = inRoom;
                heirs++;
            }
        }

        boolean hasRoom(int r) {
            return r >= 0 && r < rooms;
        }

        boolean hasRooms(int set) {
            return set >= 0 && set < 1 << rooms;
        }

        boolean hasDoor(int d) {
            return d >= 0 && d < doors;
        }

        boolean hasHeir(int p) {
            return p >= 0 && p < heirs;
        }

        /** The ROOM behind a DOOR as seen from a ROOM; NONE if that is not at it. */
        int behind(int d, int r) {
            if (oneSide[d] == r) {
                return otherSide[d];
            }
            return otherSide[d] == r ? oneSide[d] : NONE;
        }

        boolean isEarly(int hour) {
            return hour < nightHours / 2;
        }

        /** Who a word of his is told of: a taught one's is HEIR 0's. */
        int nameOf(int p, int reading) {
            return kind[p] == TAUGHT && reading != TAUGHT_FOR_THEMSELVES ? 0 : p;
        }

        boolean isHeard(int p, int from, int r) {
            return walls[from][r] < voice[p];
        }

        int heardFrom(int p, int from) {
            int set = 0;
            for (int r = 0; r < rooms; r++) {
                if (isHeard(p, from, r)) {
                    set |= 1 << r;
                }
            }
            return set;
        }

        void measure() {
            for (int a = 0; a < rooms; a++) {
                for (int b = 0; b < rooms; b++) {
                    walls[a][b] = a == b ? 0 : NO_WAY;
                    ways[a][b] = a == b ? 0 : NO_WAY;
                }
            }
            for (int d = 0; d < doors; d++) {
                shorten(walls, oneSide[d], otherSide[d], thick[d]);
                shorten(ways, oneSide[d], otherSide[d], 1);
            }
            shortenByRoomsBetween(walls);
            shortenByRoomsBetween(ways);
        }

        private void shorten(int[][] table, int a, int b, int length) {
            if (length < table[a][b]) {
                table[a][b] = length;
                table[b][a] = length;
            }
        }

        private void shortenByRoomsBetween(int[][] table) {
            for (int between = 0; between < rooms; between++) {
                for (int a = 0; a < rooms; a++) {
                    for (int b = 0; b < rooms; b++) {
                        shorten(table, a, b, table[a][between] + table[between][b]);
                    }
                }
            }
        }
    }

    /** All that a deed can change: the HOUR, the CANDLES, where HEIRS are, the words, what belongs to whom. */
    private static final class Night {
        int hours = 0;
        int nights = 0;
        int sayings = 0;
        /** The CANDLES put OUT, a SET. */
        int outs = 0;
        final int[] burns = new int[MOST_ROOMS];
        final int[] owner = new int[MOST_ROOMS];
        final int[] place = new int[MOST_HEIRS];
        /** Whose word was LAST, by each READING: what has not counted by one cannot be found out later. */
        final int[][] last = new int[READINGS][MOST_ROOMS];

        void begin(House house) {
            hours = 0;
            nights = 0;
            sayings = 0;
            System.arraycopy(house.burns, 0, burns, 0, MOST_ROOMS);
            System.arraycopy(house.start, 0, place, 0, MOST_HEIRS);
            Arrays.fill(owner, NONE);
            clearNight();
        }

        void copyFrom(Night other) {
            hours = other.hours;
            nights = other.nights;
            sayings = other.sayings;
            outs = other.outs;
            System.arraycopy(other.burns, 0, burns, 0, MOST_ROOMS);
            System.arraycopy(other.owner, 0, owner, 0, MOST_ROOMS);
            System.arraycopy(other.place, 0, place, 0, MOST_HEIRS);
            for (int k = 0; k < READINGS; k++) {
                System.arraycopy(other.last[k], 0, last[k], 0, MOST_ROOMS);
            }
        }

        private void clearNight() {
            outs = 0;
            for (int k = 0; k < READINGS; k++) {
                Arrays.fill(last[k], NONE);
            }
        }

        void passHour(House house) {
            hours++;
            if (hours < house.nightHours) {
                return;
            }
            for (int r = 0; r < house.rooms; r++) {
                owner[r] = will(r, AS_TOLD);
            }
            clearNight();
            hours = 0;
            nights++;
        }

        boolean isOut(int r) {
            return (outs >> r & 1) != 0;
        }

        void putOut(int r) {
            outs |= 1 << r;
        }

        void lightAgain(int r) {
            outs &= ~(1 << r);
        }

        boolean isLitAt(int r, int hour) {
            return hour < burns[r] && !isOut(r);
        }

        int litAt(House house, int hour) {
            int set = 0;
            for (int r = 0; r < house.rooms; r++) {
                if (isLitAt(r, hour)) {
                    set |= 1 << r;
                }
            }
            return set;
        }

        int hears(House house, int p) {
            return house.heardFrom(p, place[p]);
        }

        /** The ROOMS whose LAST word a saying would be, of an HEIR who is at a ROOM at an HOUR, by a READING. */
        int reached(House house, int p, int from, int hour, int reading) {
            int kind = house.kind[p];
            if (house.isEarly(hour) && (kind == ASLEEP || reading == NOT_EARLY)) {
                return 0;
            }
            if (kind == WRITES) {
                return 1 << from;
            }
            if (kind == PARROT) {
                return isLitAt(from, hour) && last[reading][from] != NONE ? 1 << from : 0;
            }
            int heard = reading == NOT_THROUGH_DOORS ? 1 << from : house.heardFrom(p, from);
            return heard & litAt(house, hour);
        }

        int counts(House house, int p) {
            int set = reached(house, p, place[p], hours, AS_TOLD);
            int name = house.nameOf(p, AS_TOLD);
            for (int r = 0; r < house.rooms; r++) {
                if (last[AS_TOLD][r] == name) {
                    set &= ~(1 << r);
                }
            }
            return set;
        }

        void speak(House house, int p) {
            for (int k = 0; k < READINGS; k++) {
                int set = reached(house, p, place[p], hours, k);
                for (int r = 0; r < house.rooms; r++) {
                    if ((set >> r & 1) != 0) {
                        last[k][r] = house.nameOf(p, k);
                    }
                }
            }
            sayings++;
        }

        int will(int r, int reading) {
            return last[reading][r] != NONE ? last[reading][r] : owner[r];
        }

        int sure(House house) {
            int set = 0;
            for (int r = 0; r < house.rooms; r++) {
                if (isSure(r)) {
                    set |= 1 << r;
                }
            }
            return set;
        }

        private boolean isSure(int r) {
            int heir = will(r, AS_TOLD);
            for (int k = 0; k < READINGS; k++) {
                if (will(r, k) != heir) {
                    return false;
                }
            }
            return heir != NONE;
        }

        int worth(House house, int r) {
            int count = 0;
            for (int p = 0; p < house.heirs; p++) {
                if (house.isHeard(p, place[p], r)) {
                    count++;
                }
            }
            return count;
        }

        int holdings(House house, int p) {
            int set = 0;
            for (int r = 0; r < house.rooms; r++) {
                if (owner[r] == p) {
                    set |= 1 << r;
                }
            }
            return set;
        }

        int holder(House house) {
            int greatest = NONE;
            int most = 0;
            for (int p = 0; p < house.heirs; p++) {
                int count = Integer.bitCount(holdings(house, p));
                if (count > most) {
                    most = count;
                    greatest = p;
                }
            }
            return greatest;
        }
    }

    /** The states ahead of the latest deeds, in a ring: the oldest makes room for the newest. */
    private static final class Trail {
        final Night[] states = new Night[MOST_UNDONE];
        int count = 0;
        private int next = 0;

        Trail() {
            for (int i = 0; i < MOST_UNDONE; i++) {
                states[i] = new Night();
            }
        }

        void clear() {
            count = 0;
            next = 0;
        }

        void remember(Night night) {
            states[next].copyFrom(night);
            next = (next + 1) % MOST_UNDONE;
            count = Math.min(count + 1, MOST_UNDONE);
        }

        void takeBack(int n, Night night) {
            next = Math.floorMod(next - n, MOST_UNDONE);
            count -= n;
            night.copyFrom(states[next]);
        }
    }

    /**
     * FEWEST, from the NIGHT's end back to now. A ROOM once his stays his, as others are silent: so a plan is
     * known by what is still missing. All SETS that may be missing are one long: bit m for the SET m.
     */
    private static final class Planner {
        int fewestSayings = NONE;
        int latestHour = NONE;
        /** At [room][c]: what may be missing there at the HOUR looked at, so that c SAYINGS are enough. */
        private final long[][] before = new long[MOST_ROOMS][MOST_ROOMS + 1];
        /** The same, once something was SAID in that HOUR or not, ahead of his going. */
        private final long[][] between = new long[MOST_ROOMS][MOST_ROOMS + 1];

        void plan(House house, Night night, int p, int set) {
            int missing = missingOf(house, night, p, set);
            fewestSayings = missing == 0 ? 0 : NONE;
            latestHour = NONE;
            if (missing == 0) {
                return;
            }
            // each saying of a plan with none too many wins a room at least
            int most = Integer.bitCount(missing);
            beginAtMorning(house, most);
            for (int hour = house.nightHours - 1; hour >= night.hours; hour--) {
                goOrStay(house, most);
                for (int r = 0; r < house.rooms; r++) {
                    sayOrNot(r, night.reached(house, p, r, hour, AS_TOLD), most);
                    // a silent walk brings him there in time
                    if (house.ways[night.place[p]][r] <= hour - night.hours) {
                        take(r, missing, most, hour);
                    }
                }
            }
        }

        private int missingOf(House house, Night night, int p, int set) {
            int missing = 0;
            for (int r = 0; r < house.rooms; r++) {
                if ((set >> r & 1) != 0 && night.will(r, AS_TOLD) != house.nameOf(p, AS_TOLD)) {
                    missing |= 1 << r;
                }
            }
            return missing;
        }

        private void beginAtMorning(House house, int most) {
            for (int r = 0; r < house.rooms; r++) {
                for (int c = 0; c <= most; c++) {
                    before[r][c] = 1L;
                }
            }
        }

        private void goOrStay(House house, int most) {
            for (int r = 0; r < house.rooms; r++) {
                System.arraycopy(before[r], 0, between[r], 0, most + 1);
            }
            for (int d = 0; d < house.doors; d++) {
                int a = house.oneSide[d];
                int b = house.otherSide[d];
                for (int c = 0; c <= most; c++) {
                    between[a][c] |= before[b][c];
                    between[b][c] |= before[a][c];
                }
            }
        }

        private void sayOrNot(int r, int won, int most) {
            // with no saying left nothing may be missing, at any hour: before[r][0] stays
            for (int c = 1; c <= most; c++) {
                before[r][c] = between[r][c] | winnable(between[r][c - 1], won);
            }
        }

        /** The SETS that are among those given once the ROOMS won are left out of them. */
        private long winnable(long sets, int won) {
            long found = sets;
            for (int r = 0; r < MOST_ROOMS; r++) {
                if ((won >> r & 1) != 0) {
                    found &= LACKING[r];
                    found |= found << (1 << r);
                }
            }
            return found;
        }

        /** Hours are looked at from the latest on: only fewer SAYINGS are better than what stands. */
        private void take(int r, int missing, int most, int hour) {
            for (int c = 1; c <= most; c++) {
                if ((before[r][c] >>> missing & 1L) != 0 && (fewestSayings == NONE || c < fewestSayings)) {
                    fewestSayings = c;
                    latestHour = hour;
                    return;
                }
            }
        }
    }

    /** In which ROOMS the one unknown HEIR was HEARD, or not. */
    private static final class Seen {
        int count = 0;
        private final int[] rooms = new int[MOST_SEEN];
        private final boolean[] heard = new boolean[MOST_SEEN];

        boolean append(int r, boolean wasHeard) {
            if (count >= MOST_SEEN) {
                return false;
            }
            rooms[count] = r;
            heard[count] = wasHeard;
            count++;
            return true;
        }

        int suspects(House house, Night night) {
            int set = 0;
            for (int p = 0; p < house.heirs; p++) {
                if (fits(night.hears(house, p))) {
                    set |= 1 << p;
                }
            }
            return set;
        }

        private boolean fits(int hears) {
            for (int i = 0; i < count; i++) {
                boolean hearsThere = (hears >> rooms[i] & 1) != 0;
                if (hearsThere != heard[i]) {
                    return false;
                }
            }
            return true;
        }

        int bestRoom(House house, Night night) {
            int suspects = suspects(house, night);
            int best = NONE;
            // a room that leaves them all in one part tells nothing
            int least = Integer.bitCount(suspects);
            for (int r = 0; r < house.rooms; r++) {
                int greater = greaterPart(house, night, suspects, r);
                if (greater < least) {
                    least = greater;
                    best = r;
                }
            }
            return best;
        }

        private int greaterPart(House house, Night night, int suspects, int r) {
            int hearing = 0;
            for (int p = 0; p < house.heirs; p++) {
                if ((suspects >> p & 1) != 0 && house.isHeard(p, night.place[p], r)) {
                    hearing++;
                }
            }
            return Math.max(hearing, Integer.bitCount(suspects) - hearing);
        }
    }

    /** THE BOOK: whose ROOMS are, as somebody wrote it. */
    private static final class Book {
        int count = 0;
        private final int[] rooms = new int[MOST_ENTRIES];
        private final int[] heirs = new int[MOST_ENTRIES];

        boolean append(int r, int p) {
            if (count >= MOST_ENTRIES) {
                return false;
            }
            rooms[count] = r;
            heirs[count] = p;
            count++;
            return true;
        }

        int firstWrong(Night night) {
            for (int i = 0; i < count; i++) {
                if (night.owner[rooms[i]] != heirs[i]) {
                    return i;
                }
            }
            return NONE;
        }
    }
}
