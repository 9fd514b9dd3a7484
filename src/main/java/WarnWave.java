/** How a land is woken: who hears a warning and by which way, who believes it, and who goes. */
public final class WarnWave {
    private static final int NONE = -1;

    private static final int SIDE = 4;
    private static final int CELLS = 16;
    private static final int EVERY_CELL = 65535;
    private static final int TONGUES = 3;
    private static final int EVERY_TONGUE = 7;
    private static final int OFFICERS = 4;
    private static final int FIRST_KEYS = 3;
    private static final int KEYS_NEEDED = 2;

    private static final int GROUP_LIMIT = 8;
    private static final int SHELTER_LIMIT = 3;
    private static final int SENDER_LIMIT = 4;
    private static final int WARNING_LIMIT = 12;
    private static final int PEOPLE_LIMIT = 99;
    private static final int ROOM_LIMIT = 200;
    private static final int REACH_LIMIT = 3;
    private static final int LINES_LIMIT = 3;
    private static final int LATER_LIMIT = 999;
    private static final int MINUTES_LIMIT = 60;
    private static final int NOW_LIMIT = 9999;

    private static final int HOUR_LENGTH = 60;
    private static final int HOURS = 24;
    private static final int NIGHT_BEGINS = 22;
    private static final int NIGHT_ENDS = 6;

    private static final int TRUST_AT_FIRST = 5;
    private static final int TRUST_LIMIT = 9;
    private static final int TRUST_WON = 1;
    private static final int TRUST_LOST = 2;
    private static final int HARM_OF_GONE = 5;

    private static final int ALERT = 0;
    private static final int UPDATE = 1;
    private static final int CANCEL = 2;

    private static final int STAY = 0;
    private static final int GO = 1;

    private static final int BY_SIREN = 0;
    private static final int BY_MAST = 1;
    private static final int BY_RADIO = 2;
    private static final int BY_CALL = 3;
    private static final int BY_NEIGHBOUR = 4;
    private static final int SIREN_EVERY = 3;
    private static final int MAST_WAKES_AFTER = 2;

    private static final int DIGEST_START = 4814;
    private static final int DIGEST_FACTOR = 31;
    private static final int DIGEST_SAFE_MINUTES = 9;
    private static final int DIGEST_SIREN_CELL = 5;
    private static final int DIGEST_SIREN_REACH = 1;
    private static final int DIGEST_SIREN_MINUTES = 6;

    private final Land land;

    // What would be is played in a second land, made once, so that no question makes objects.
    private final Land trial;

    public WarnWave() {
        land = new Land();
        trial = new Land();
    }

    // ---- what is told.

    public int group(int cell, int people, int tongue, boolean isDeaf, boolean hasRadio)
            throws IndexOutOfBoundsException, IllegalArgumentException, IllegalStateException {
        checkCell(cell);
        checkRange(people, 1, PEOPLE_LIMIT);
        checkRange(tongue, 0, TONGUES - 1);
        if (land.groupCount >= GROUP_LIMIT) {
            throw new IllegalStateException("there were 8 groups");
        }
        Group told = land.groups[land.groupCount];
        told.cell = cell;
        told.people = people;
        told.tongue = tongue;
        told.isDeaf = isDeaf;
        told.hasRadio = hasRadio;
        return land.groupCount++;
    }

    public int trust(int group, int trust) throws IndexOutOfBoundsException, IllegalArgumentException {
        checkGroup(group);
        checkRange(trust, 0, TRUST_LIMIT);
        int before = land.groups[group].trust;
        land.groups[group].trust = trust;
        return before;
    }

    public int shelter(int cell, int room)
            throws IndexOutOfBoundsException, IllegalArgumentException, IllegalStateException {
        checkCell(cell);
        checkRange(room, 1, ROOM_LIMIT);
        if (land.shelterCount >= SHELTER_LIMIT) {
            throw new IllegalStateException("there were 3 shelters");
        }
        Shelter told = land.shelters[land.shelterCount];
        told.cell = cell;
        told.room = room;
        return land.shelterCount++;
    }

    public int siren(int cell, int reach)
            throws IndexOutOfBoundsException, IllegalArgumentException, IllegalStateException {
        checkCell(cell);
        checkRange(reach, 0, REACH_LIMIT);
        if (land.sirens.count >= SENDER_LIMIT) {
            throw new IllegalStateException("there were 4 sirens");
        }
        return land.sirens.add(cell, reach);
    }

    public int mast(int cell, int reach)
            throws IndexOutOfBoundsException, IllegalArgumentException, IllegalStateException {
        checkCell(cell);
        checkRange(reach, 0, REACH_LIMIT);
        if (land.masts.count >= SENDER_LIMIT) {
            throw new IllegalStateException("there were 4 masts");
        }
        return land.masts.add(cell, reach);
    }

    public int power(int cell, boolean is) throws IndexOutOfBoundsException {
        checkCell(cell);
        return land.sirens.setPower(cell, is) + land.masts.setPower(cell, is);
    }

    public int lines(int lines) throws IllegalArgumentException {
        checkRange(lines, 0, LINES_LIMIT);
        int before = land.lines;
        land.lines = lines;
        return before;
    }

    public int danger(int cell, int later) throws IndexOutOfBoundsException, IllegalArgumentException {
        checkCell(cell);
        checkRange(later, NONE, LATER_LIMIT);
        int before = land.dangerFrom[cell];
        land.dangerFrom[cell] = later == NONE ? NONE : land.now + later;
        return before;
    }

    public boolean key(int officer, boolean has) throws IndexOutOfBoundsException {
        checkOfficer(officer);
        boolean had = isIn(land.keys, officer);
        land.keys = has ? land.keys | 1 << officer : land.keys & ~(1 << officer);
        return had;
    }

    // ---- warnings and minutes.

    public int alert(int area, int advice, int tongues) throws IllegalArgumentException, IllegalStateException {
        checkWords(area, advice, tongues);
        return draft(ALERT, NONE, area, advice, tongues);
    }

    public int update(int warning, int area, int advice, int tongues)
            throws IndexOutOfBoundsException, IllegalArgumentException, IllegalStateException {
        checkWarning(warning);
        checkWords(area, advice, tongues);
        checkInForce(warning);
        return draft(UPDATE, warning, area, advice, tongues);
    }

    public int cancel(int warning) throws IndexOutOfBoundsException, IllegalStateException {
        checkWarning(warning);
        checkInForce(warning);
        Warning other = land.warnings[warning];
        return draft(CANCEL, warning, other.area, other.advice, other.tongues);
    }

    public int approve(int warning, int officer) throws IndexOutOfBoundsException, IllegalStateException {
        checkWarning(warning);
        checkOfficer(officer);
        Warning approved = land.warnings[warning];
        if (approved.sentAt != NONE) {
            throw new IllegalStateException("the warning was sent");
        }
        if (isIn(approved.approvals, officer)) {
            throw new IllegalStateException("the officer has approved it");
        }
        approved.approvals |= 1 << officer;
        return land.keysLacking(approved);
    }

    public int send(int warning) throws IndexOutOfBoundsException, IllegalStateException {
        checkWarning(warning);
        if (!land.isSendable(land.warnings[warning])) {
            throw new IllegalStateException("the warning cannot be sent");
        }
        land.sendOut(land.warnings[warning]);
        return land.peopleIn(land.warnings[warning].area);
    }

    public int pass(int minutes) throws IllegalArgumentException, IllegalStateException {
        checkRange(minutes, 1, MINUTES_LIMIT);
        if (land.now + minutes > NOW_LIMIT) {
            throw new IllegalStateException("the minutes end at 9999");
        }
        return land.playMinutes(minutes);
    }

    public int until(int hour) throws IllegalArgumentException, IllegalStateException {
        checkRange(hour, 0, HOURS - 1);
        int nextHour = land.now / HOUR_LENGTH + 1;
        int then = (nextHour + Math.floorMod(hour - nextHour, HOURS)) * HOUR_LENGTH;
        if (land.countInForce() > 0 || then > NOW_LIMIT) {
            throw new IllegalStateException("a warning is in force, or the minutes end at 9999");
        }
        land.now = then;
        return then;
    }

    // ---- what one asks.

    public int ofGroup(int group, int what) throws IndexOutOfBoundsException, IllegalArgumentException {
        checkGroup(group);
        Group asked = land.groups[group];
        switch (what) {
            case 0: return asked.cell;
            case 1: return asked.people;
            case 2: return asked.tongue;
            case 3: return asked.trust;
            case 4: return land.isAsleep(asked) ? 1 : 0;
            case 5: return asked.shelter;
            case 6: return asked.harm;
            case 7: return asked.isGone() ? 1 : 0;
            case 8: return land.latestBelieved(asked);
            default: throw new IllegalArgumentException("what is 0 to 8");
        }
    }

    public int heard(int group, int warning, int what) throws IndexOutOfBoundsException, IllegalArgumentException {
        checkGroup(group);
        checkWarning(warning);
        Group asked = land.groups[group];
        switch (what) {
            case 0: return asked.heardAt[warning];
            case 1: return asked.heardBy[warning];
            case 2: return asked.heardFrom[warning];
            case 3: return asked.ways[warning];
            case 4: return asked.believedAt[warning];
            default: throw new IllegalArgumentException("what is 0 to 4");
        }
    }

    public int ofWarning(int warning, int what) throws IndexOutOfBoundsException, IllegalArgumentException {
        checkWarning(warning);
        Warning asked = land.warnings[warning];
        switch (what) {
            case 0: return asked.kind;
            case 1: return asked.other;
            case 2: return asked.area;
            case 3: return asked.advice;
            case 4: return asked.tongues;
            case 5: return asked.approvals;
            case 6: return asked.sentAt;
            case 7: return asked.isInForce ? 1 : 0;
            case 8: return land.countBelievers(warning);
            default: throw new IllegalArgumentException("what is 0 to 8");
        }
    }

    public int inForce(int cell) throws IndexOutOfBoundsException {
        checkCell(cell);
        for (int w = land.warningCount - 1; w >= 0; w--) {
            if (land.warnings[w].isInForce && isIn(land.warnings[w].area, cell)) {
                return w;
            }
        }
        return NONE;
    }

    public int roomIn(int shelter) throws IndexOutOfBoundsException {
        if (shelter < 0 || shelter >= land.shelterCount) {
            throw new IndexOutOfBoundsException("no such shelter");
        }
        return land.shelters[shelter].room;
    }

    public int chain(int group, int warning) throws IndexOutOfBoundsException {
        checkGroup(group);
        checkWarning(warning);
        if (land.groups[group].ways[warning] == 0) {
            return 0;
        }
        int digits = 1;
        int link = group;
        for (int step = 0; step < land.groupCount && link >= 0 && link < land.groupCount; step++) {
            digits = digits * 10 + link;
            link = land.groups[link].heardFrom[warning];
        }
        return digits;
    }

    public int many(int what) throws IllegalArgumentException {
        switch (what) {
            case 0: return land.now;
            case 1: return land.hourNow();
            case 2: return land.groupCount;
            case 3: return land.peopleOfAll();
            case 4: return land.peopleSafe();
            case 5: return land.peopleGone();
            case 6: return land.warningCount;
            case 7: return land.countInForce();
            case 8: return land.cellsInDanger();
            case 9: return land.countAsleep();
            case 10: return land.callsMade;
            case 11: return land.keys;
            default: throw new IllegalArgumentException("what is 0 to 11");
        }
    }

    public double meanDelay(int warning) throws IndexOutOfBoundsException {
        checkWarning(warning);
        int people = 0;
        int delays = 0;
        for (int g = 0; g < land.groupCount; g++) {
            Group one = land.groups[g];
            if (one.believedAt[warning] != NONE) {
                people += one.people;
                delays += one.people * (one.believedAt[warning] - land.warnings[warning].sentAt);
            }
        }
        return people == 0 ? 0.0 : (double) delays / (double) people;
    }

    // ---- what would be (nothing is changed).

    public int safeIn(int group, int minutes) throws IndexOutOfBoundsException, IllegalArgumentException {
        checkGroup(group);
        checkRange(minutes, 1, MINUTES_LIMIT);
        if (land.groups[group].isSafe()) {
            return 0;
        }
        trial.becomeLike(land);
        for (int minute = 1; minute <= minutes; minute++) {
            trial.playMinutes(1);
            if (trial.groups[group].isSafe()) {
                return minute;
            }
        }
        return NONE;
    }

    public int sirenWould(int cell, int reach, int minutes)
            throws IndexOutOfBoundsException, IllegalArgumentException {
        checkCell(cell);
        checkRange(reach, 0, REACH_LIMIT);
        checkRange(minutes, 1, MINUTES_LIMIT);
        trial.becomeLike(land);
        trial.playMinutes(minutes);
        int without = trial.peopleBelieving();
        trial.becomeLike(land);
        trial.sirens.add(cell, reach);
        trial.playMinutes(minutes);
        return trial.peopleBelieving() - without;
    }

    public long digest() {
        long sum = DIGEST_START;
        for (int what = 0; what <= 11; what++) {
            sum = mix(sum, many(what));
        }
        for (int g = 0; g < land.groupCount; g++) {
            for (int what = 0; what <= 8; what++) {
                sum = mix(sum, ofGroup(g, what));
            }
            sum = mix(sum, safeIn(g, DIGEST_SAFE_MINUTES));
            sum = mixHeard(sum, g);
        }
        for (int w = 0; w < land.warningCount; w++) {
            for (int what = 0; what <= 8; what++) {
                sum = mix(sum, ofWarning(w, what));
            }
        }
        for (int cell = 0; cell < CELLS; cell++) {
            sum = mix(sum, inForce(cell));
        }
        for (int s = 0; s < land.shelterCount; s++) {
            sum = mix(sum, roomIn(s));
        }
        return mix(sum, sirenWould(DIGEST_SIREN_CELL, DIGEST_SIREN_REACH, DIGEST_SIREN_MINUTES));
    }

    private long mixHeard(long before, int group) {
        long sum = before;
        for (int w = 0; w < land.warningCount; w++) {
            for (int what = 0; what <= 4; what++) {
                sum = mix(sum, heard(group, w, what));
            }
            sum = mix(sum, chain(group, w));
        }
        return sum;
    }

    private static long mix(long sum, int value) {
        return sum * DIGEST_FACTOR + value;
    }

    private int draft(int kind, int other, int area, int advice, int tongues) {
        if (land.warningCount >= WARNING_LIMIT) {
            throw new IllegalStateException("there were 12 warnings");
        }
        Warning drafted = land.warnings[land.warningCount];
        drafted.kind = kind;
        drafted.other = other;
        drafted.area = area;
        drafted.advice = advice;
        drafted.tongues = tongues;
        return land.warningCount++;
    }

    private static void checkCell(int cell) {
        if (cell < 0 || cell >= CELLS) {
            throw new IndexOutOfBoundsException("a cell is 0 to 15");
        }
    }

    private static void checkOfficer(int officer) {
        if (officer < 0 || officer >= OFFICERS) {
            throw new IndexOutOfBoundsException("an officer is 0 to 3");
        }
    }

    private void checkGroup(int group) {
        if (group < 0 || group >= land.groupCount) {
            throw new IndexOutOfBoundsException("no such group");
        }
    }

    private void checkWarning(int warning) {
        if (warning < 0 || warning >= land.warningCount) {
            throw new IndexOutOfBoundsException("no such warning");
        }
    }

    private void checkInForce(int warning) {
        if (!land.warnings[warning].isInForce) {
            throw new IllegalStateException("the warning is not in force");
        }
    }

    private static void checkWords(int area, int advice, int tongues) {
        checkRange(area, 1, EVERY_CELL);
        checkRange(advice, STAY, GO);
        checkRange(tongues, 1, EVERY_TONGUE);
    }

    private static void checkRange(int value, int least, int most) {
        if (value < least || value > most) {
            throw new IllegalArgumentException("out of range");
        }
    }

    private static boolean isIn(int set, int member) {
        return (set >> member & 1) == 1;
    }

    private static int distance(int from, int to) {
        return Math.abs(from / SIDE - to / SIDE) + Math.abs(from % SIDE - to % SIDE);
    }

    private static int stepTowards(int from, int to) {
        if (from / SIDE != to / SIDE) {
            return to > from ? from + SIDE : from - SIDE;
        }
        if (from != to) {
            return to > from ? from + 1 : from - 1;
        }
        return from;
    }

    /** A group of people, and what it knows of each warning. */
    private static final class Group {
        int cell;
        int people;
        int tongue;
        int trust = TRUST_AT_FIRST;
        boolean isDeaf;
        boolean hasRadio;
        int shelter = NONE;
        int harm;
        final int[] ways = new int[WARNING_LIMIT];
        final int[] heardAt = new int[WARNING_LIMIT];
        final int[] heardBy = new int[WARNING_LIMIT];
        final int[] heardFrom = new int[WARNING_LIMIT];
        final int[] believedAt = new int[WARNING_LIMIT];

        Group() {
            for (int w = 0; w < WARNING_LIMIT; w++) {
                heardAt[w] = NONE;
                heardBy[w] = NONE;
                heardFrom[w] = NONE;
                believedAt[w] = NONE;
            }
        }

        void becomeLike(Group model) {
            cell = model.cell;
            people = model.people;
            tongue = model.tongue;
            trust = model.trust;
            isDeaf = model.isDeaf;
            hasRadio = model.hasRadio;
            shelter = model.shelter;
            harm = model.harm;
            System.arraycopy(model.ways, 0, ways, 0, WARNING_LIMIT);
            System.arraycopy(model.heardAt, 0, heardAt, 0, WARNING_LIMIT);
            System.arraycopy(model.heardBy, 0, heardBy, 0, WARNING_LIMIT);
            System.arraycopy(model.heardFrom, 0, heardFrom, 0, WARNING_LIMIT);
            System.arraycopy(model.believedAt, 0, believedAt, 0, WARNING_LIMIT);
        }

        boolean isGone() {
            return harm >= HARM_OF_GONE;
        }

        boolean isSafe() {
            return shelter != NONE;
        }

        int waysNeeded() {
            return Math.max(1, (11 - trust) / 4);
        }

        void noteWays(int warning, int newWays, int neighbour, int minute) {
            if (ways[warning] == 0 && newWays != 0) {
                heardAt[warning] = minute;
                heardBy[warning] = BY_SIREN;
                while (heardBy[warning] < BY_NEIGHBOUR && !isIn(newWays, heardBy[warning])) {
                    heardBy[warning]++;
                }
                heardFrom[warning] = heardBy[warning] == BY_NEIGHBOUR ? neighbour : NONE;
            }
            ways[warning] |= newWays;
        }
    }

    /** A shelter; its room is what is left of it. */
    private static final class Shelter {
        int cell;
        int room;
    }

    /** All sirens, or all masts. */
    private static final class Senders {
        // One place more than can be told, for the siren that a question adds.
        final int[] cells = new int[SENDER_LIMIT + 1];
        final int[] reaches = new int[SENDER_LIMIT + 1];
        final boolean[] hasPower = new boolean[SENDER_LIMIT + 1];
        int count;

        int add(int cell, int reach) {
            if (count > SENDER_LIMIT) {
                return NONE;
            }
            cells[count] = cell;
            reaches[count] = reach;
            hasPower[count] = true;
            return count++;
        }

        int setPower(int cell, boolean is) {
            int changed = 0;
            for (int s = 0; s < count; s++) {
                if (cells[s] == cell && hasPower[s] != is) {
                    hasPower[s] = is;
                    changed++;
                }
            }
            return changed;
        }

        int cellsReached() {
            int set = 0;
            for (int s = 0; s < count; s++) {
                for (int cell = 0; hasPower[s] && cell < CELLS; cell++) {
                    if (distance(cells[s], cell) <= reaches[s]) {
                        set |= 1 << cell;
                    }
                }
            }
            return set;
        }

        void becomeLike(Senders model) {
            count = model.count;
            for (int s = 0; s < count; s++) {
                cells[s] = model.cells[s];
                reaches[s] = model.reaches[s];
                hasPower[s] = model.hasPower[s];
            }
        }
    }

    /** An alert, an update or a cancel, drafted or sent. */
    private static final class Warning {
        int kind;
        int other = NONE;
        int area;
        int advice;
        int tongues;
        int approvals;
        int sentAt = NONE;
        boolean isInForce;

        void becomeLike(Warning model) {
            kind = model.kind;
            other = model.other;
            area = model.area;
            advice = model.advice;
            tongues = model.tongues;
            approvals = model.approvals;
            sentAt = model.sentAt;
            isInForce = model.isInForce;
        }
    }

    /** The whole state, and how a minute changes it. */
    private static final class Land {
        int now;
        int lines = 1;
        int keys = FIRST_KEYS;
        int callsMade;
        int groupCount;
        int shelterCount;
        int warningCount;
        final Group[] groups = new Group[GROUP_LIMIT];
        final Shelter[] shelters = new Shelter[SHELTER_LIMIT];
        final Warning[] warnings = new Warning[WARNING_LIMIT];
        final Senders sirens = new Senders();
        final Senders masts = new Senders();
        final int[] dangerFrom = new int[CELLS];
        // Which group is called for each warning in the minute that is played.
        final int[] called = new int[WARNING_LIMIT];

        Land() {
            for (int g = 0; g < GROUP_LIMIT; g++) {
                groups[g] = new Group();
            }
            for (int s = 0; s < SHELTER_LIMIT; s++) {
                shelters[s] = new Shelter();
            }
            for (int w = 0; w < WARNING_LIMIT; w++) {
                warnings[w] = new Warning();
            }
            for (int cell = 0; cell < CELLS; cell++) {
                dangerFrom[cell] = NONE;
            }
        }

        void becomeLike(Land model) {
            now = model.now;
            lines = model.lines;
            keys = model.keys;
            callsMade = model.callsMade;
            groupCount = model.groupCount;
            shelterCount = model.shelterCount;
            warningCount = model.warningCount;
            for (int g = 0; g < groupCount; g++) {
                groups[g].becomeLike(model.groups[g]);
            }
            for (int s = 0; s < shelterCount; s++) {
                shelters[s].cell = model.shelters[s].cell;
                shelters[s].room = model.shelters[s].room;
            }
            for (int w = 0; w < warningCount; w++) {
                warnings[w].becomeLike(model.warnings[w]);
            }
            sirens.becomeLike(model.sirens);
            masts.becomeLike(model.masts);
            System.arraycopy(model.dangerFrom, 0, dangerFrom, 0, CELLS);
        }

        int hourNow() {
            return now / HOUR_LENGTH % HOURS;
        }

        boolean isNight() {
            return hourNow() >= NIGHT_BEGINS || hourNow() < NIGHT_ENDS;
        }

        boolean isAsleep(Group group) {
            return !group.isGone() && isNight() && latestBelieved(group) == NONE;
        }

        boolean isInDanger(int cell) {
            return dangerFrom[cell] != NONE && dangerFrom[cell] <= now;
        }

        int cellsInDanger() {
            int set = 0;
            for (int cell = 0; cell < CELLS; cell++) {
                if (isInDanger(cell)) {
                    set |= 1 << cell;
                }
            }
            return set;
        }

        int latestBelieved(Group group) {
            for (int w = warningCount - 1; w >= 0; w--) {
                if (warnings[w].isInForce && group.believedAt[w] != NONE) {
                    return w;
                }
            }
            return NONE;
        }

        int countInForce() {
            int count = 0;
            for (int w = 0; w < warningCount; w++) {
                count += warnings[w].isInForce ? 1 : 0;
            }
            return count;
        }

        int countAsleep() {
            int count = 0;
            for (int g = 0; g < groupCount; g++) {
                count += isAsleep(groups[g]) ? 1 : 0;
            }
            return count;
        }

        int countBelievers(int warning) {
            int count = 0;
            for (int g = 0; g < groupCount; g++) {
                count += groups[g].believedAt[warning] != NONE ? 1 : 0;
            }
            return count;
        }

        int peopleOfAll() {
            int people = 0;
            for (int g = 0; g < groupCount; g++) {
                people += groups[g].people;
            }
            return people;
        }

        int peopleSafe() {
            int people = 0;
            for (int g = 0; g < groupCount; g++) {
                people += groups[g].isSafe() ? groups[g].people : 0;
            }
            return people;
        }

        int peopleGone() {
            int people = 0;
            for (int g = 0; g < groupCount; g++) {
                people += groups[g].isGone() ? groups[g].people : 0;
            }
            return people;
        }

        int peopleIn(int area) {
            int people = 0;
            for (int g = 0; g < groupCount; g++) {
                people += !groups[g].isGone() && isIn(area, groups[g].cell) ? groups[g].people : 0;
            }
            return people;
        }

        int peopleBelieving() {
            int people = 0;
            for (int g = 0; g < groupCount; g++) {
                people += latestBelieved(groups[g]) != NONE ? groups[g].people : 0;
            }
            return people;
        }

        int keysLacking(Warning warning) {
            return Math.max(0, KEYS_NEEDED - Integer.bitCount(warning.approvals & keys));
        }

        boolean isSendable(Warning warning) {
            return warning.sentAt == NONE && keysLacking(warning) == 0 && isStillAbout(warning);
        }

        /** Whether what it updates or cancels, if anything, is in force: no other one was sent then. */
        private boolean isStillAbout(Warning warning) {
            int other = warning.other;
            return other < 0 || other >= warningCount || warnings[other].isInForce;
        }

        void sendOut(Warning warning) {
            int other = warning.other;
            warning.sentAt = now;
            warning.isInForce = warning.kind != CANCEL;
            if (other < 0 || other >= warningCount) {
                return;
            }
            warnings[other].isInForce = false;
            if (warning.kind == CANCEL) {
                judge(other);
                letOut();
            }
        }

        private void judge(int cancelled) {
            int danger = cellsInDanger();
            boolean wasRight = (warnings[cancelled].area & danger) != 0;
            for (int g = 0; g < groupCount; g++) {
                Group one = groups[g];
                if (one.isGone() || one.believedAt[cancelled] == NONE) {
                    continue;
                }
                if (wasRight) {
                    one.trust = Math.min(TRUST_LIMIT, one.trust + TRUST_WON);
                } else if (!isIn(danger, one.cell)) {
                    one.trust = Math.max(0, one.trust - TRUST_LOST);
                }
            }
        }

        private void letOut() {
            for (int g = 0; g < groupCount; g++) {
                Group one = groups[g];
                if (one.shelter >= 0 && one.shelter < shelterCount && latestBelieved(one) == NONE) {
                    shelters[one.shelter].room += one.people;
                    one.shelter = NONE;
                }
            }
        }

        /** Answers how many groups believed something in these minutes. */
        int playMinutes(int minutes) {
            int believed = 0;
            for (int minute = 0; minute < minutes; minute++) {
                now++;
                chooseCalls();
                hearAll();
                believed += believeAll();
                goAll();
                harmAll();
            }
            return believed;
        }

        private void chooseCalls() {
            int linesLeft = lines;
            for (int w = 0; w < warningCount; w++) {
                called[w] = linesLeft > 0 && warnings[w].isInForce ? firstToCall(w) : NONE;
                if (called[w] != NONE) {
                    linesLeft--;
                    callsMade++;
                }
            }
        }

        private int firstToCall(int warning) {
            int area = warnings[warning].area;
            int tongues = warnings[warning].tongues;
            for (int g = 0; g < groupCount; g++) {
                Group one = groups[g];
                boolean isMeant = isIn(area, one.cell) && isIn(tongues, one.tongue);
                if (isMeant && !isIn(one.ways[warning], BY_CALL) && !one.isDeaf && !one.isGone()) {
                    return g;
                }
            }
            return NONE;
        }

        private void hearAll() {
            int sirenCells = now % SIREN_EVERY == 0 ? sirens.cellsReached() : 0;
            int mastCells = masts.cellsReached();
            for (int g = 0; g < groupCount; g++) {
                Group one = groups[g];
                if (one.isGone()) {
                    continue;
                }
                boolean isAsleep = isAsleep(one);
                boolean hearsSiren = isIn(sirenCells, one.cell) && !one.isDeaf;
                boolean hasMast = isIn(mastCells, one.cell);
                for (int w = 0; w < warningCount; w++) {
                    if (warnings[w].isInForce) {
                        int publicWays = publicWays(one, warnings[w], hearsSiren, hasMast, isAsleep);
                        hearOne(g, w, publicWays);
                    }
                }
            }
        }

        private int publicWays(Group group, Warning warning, boolean hearsSiren, boolean hasMast, boolean isAsleep) {
            if (!isIn(warning.area, group.cell)) {
                return 0;
            }
            int set = hearsSiren ? 1 << BY_SIREN : 0;
            if (!isIn(warning.tongues, group.tongue)) {
                return set;
            }
            if (hasMast && (!isAsleep || now - warning.sentAt >= MAST_WAKES_AFTER)) {
                set |= 1 << BY_MAST;
            }
            return group.hasRadio && !isAsleep ? set | 1 << BY_RADIO : set;
        }

        private void hearOne(int group, int warning, int publicWays) {
            int newWays = publicWays;
            if (called[warning] == group) {
                newWays |= 1 << BY_CALL;
            }
            // Each way counts only once, so neighbours are not looked for again.
            boolean isTold = isIn(groups[group].ways[warning], BY_NEIGHBOUR);
            int neighbour = isTold ? NONE : believingNeighbour(group, warning);
            if (neighbour != NONE) {
                newWays |= 1 << BY_NEIGHBOUR;
            }
            groups[group].noteWays(warning, newWays, neighbour, now);
        }

        private int believingNeighbour(int group, int warning) {
            Group one = groups[group];
            for (int g = 0; g < groupCount; g++) {
                Group next = groups[g];
                boolean hasNews = g != group && !next.isGone() && next.believedAt[warning] != NONE;
                if (hasNews && next.tongue == one.tongue && distance(next.cell, one.cell) <= 1) {
                    return g;
                }
            }
            return NONE;
        }

        private int believeAll() {
            int believed = 0;
            for (int g = 0; g < groupCount; g++) {
                if (!groups[g].isGone()) {
                    believed += believeOne(groups[g]);
                }
            }
            return believed;
        }

        private int believeOne(Group group) {
            int believed = 0;
            for (int w = 0; w < warningCount; w++) {
                boolean isOpen = warnings[w].isInForce && group.believedAt[w] == NONE;
                if (isOpen && Integer.bitCount(group.ways[w]) >= group.waysNeeded()) {
                    group.believedAt[w] = now;
                    believed++;
                }
            }
            return believed;
        }

        private void goAll() {
            for (int g = 0; g < groupCount; g++) {
                Group one = groups[g];
                int latest = one.isGone() || one.isSafe() ? NONE : latestBelieved(one);
                if (latest >= 0 && latest < warningCount && warnings[latest].advice == GO) {
                    goOne(one);
                }
            }
        }

        private void goOne(Group group) {
            int goal = nearestWithRoom(group);
            if (goal < 0 || goal >= shelterCount) {
                return;
            }
            if (shelters[goal].cell == group.cell) {
                shelters[goal].room -= group.people;
                group.shelter = goal;
            } else {
                group.cell = stepTowards(group.cell, shelters[goal].cell);
            }
        }

        private int nearestWithRoom(Group group) {
            int nearest = NONE;
            int least = CELLS;
            for (int s = 0; s < shelterCount; s++) {
                int far = distance(group.cell, shelters[s].cell);
                if (shelters[s].room >= group.people && far < least) {
                    nearest = s;
                    least = far;
                }
            }
            return nearest;
        }

        private void harmAll() {
            for (int g = 0; g < groupCount; g++) {
                Group one = groups[g];
                if (!one.isGone() && !one.isSafe() && isInDanger(one.cell)) {
                    one.harm++;
                }
            }
        }
    }
}
