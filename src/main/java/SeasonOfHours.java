import java.util.Arrays;
import java.util.NoSuchElementException;

/** A season of concerts: its modes, artists, programme, pieces and prizes. */
public final class SeasonOfHours {
    public static final int NONE = -1;

    private static final int MOST_MODES = 6;
    private static final int ALL_NOTES = 4095;
    private static final int ALL_HOURS = 15;
    private static final int MOST_LIMIT = 12;

    private static final int MOST_ARTISTS = 6;
    private static final int MOST_RANK = 9;
    private static final int MOST_LIKING = 100;

    private static final int MOST_EVENINGS = 3;
    private static final int HOURS_OF_EVENING = 3;
    private static final int MOST_SLOTS = 6;

    // What a slot can hold is one number, its OPTION: ARTIST times MOST_MODES and MODE.
    // Nobody comes behind all others, as it is greater than all of them.
    private static final int NOBODY = 36;
    private static final int OPTIONS = 37;

    private static final int MOST_PIECES = 10;
    private static final int SETS_OF_PIECES = 1024;
    private static final int LONGEST_PIECE = 90;
    private static final int LONGEST_ROW = 300;
    private static final int LAST_DAY = 400;
    private static final int MOST_REST = 30;

    private static final int JUDGES = 7;
    private static final int POINTS_OF_FIRST = 6;

    private final Modes modes;
    private final Artists artists;
    private final Programme programme;
    private final Planner planner;
    private final Pieces pieces;
    private final Jury jury;

    public SeasonOfHours() {
        modes = new Modes();
        artists = new Artists();
        programme = new Programme(modes, artists);
        planner = new Planner(modes, artists, programme);
        pieces = new Pieces(modes);
        jury = new Jury(artists);
    }

    public int mode(int notes, int hours) {
        if (!isWithin(notes, 0, ALL_NOTES) || !isWithin(hours, 0, ALL_HOURS)) {
            return NONE;
        }
        return modes.add(notes, hours);
    }

    public int artist(int rank) {
        return isWithin(rank, 1, MOST_RANK) ? artists.add(rank) : NONE;
    }

    public boolean like(int artist, int mode, int v) {
        if (!artists.has(artist) || !modes.has(mode) || !isWithin(v, 0, MOST_LIKING)) {
            return false;
        }
        artists.likings[artist][mode] = v;
        return true;
    }

    public boolean rival(int a, int b, boolean is) {
        if (!artists.has(a) || !artists.has(b) || a == b) {
            return false;
        }
        artists.rivals[a] = withBit(artists.rivals[a], b, is);
        artists.rivals[b] = withBit(artists.rivals[b], a, is);
        return true;
    }

    public boolean ill(int artist, boolean is) {
        if (!artists.has(artist)) {
            return false;
        }
        artists.sick = withBit(artists.sick, artist, is);
        return true;
    }

    public int set(int what, int v) {
        int was = NONE;
        if (what == 0 && isWithin(v, 0, MOST_LIMIT)) {
            was = modes.limit;
            modes.limit = v;
        } else if (what == 1 && isWithin(v, 0, MOST_REST)) {
            was = pieces.rest;
            pieces.rest = v;
        }
        return was;
    }

    public boolean season(int e, int s) {
        if (!isWithin(e, 1, MOST_EVENINGS) || !isWithin(s, 1, HOURS_OF_EVENING) || e * s > MOST_SLOTS) {
            return false;
        }
        programme.begin(e, s);
        return true;
    }

    public int near(int a, int b) {
        return modes.has(a) && modes.has(b) ? modes.shared(a, b) : NONE;
    }

    public int count(int what) {
        switch (what) {
            case 0:
                return modes.size;
            case 1:
                return artists.size;
            case 2:
                return programme.slots;
            case 3:
                return programme.filledSlots();
            case 4:
                return programme.worth();
            case 5:
                return pieces.size;
            case 6:
                return pieces.latestSize;
            default:
                return NONE;
        }
    }

    // ---- the programme

    public boolean put(int slot, int artist, int mode) {
        if (!programme.hasSlot(slot)) {
            return false;
        }
        if (artist == NONE) {
            programme.options[slot] = NOBODY;
            return true;
        }
        if (!artists.has(artist) || !modes.has(mode)) {
            return false;
        }
        programme.options[slot] = artist * MOST_MODES + mode;
        return true;
    }

    public int at(int slot, int what) throws NoSuchElementException {
        if (!programme.hasSlot(slot)) {
            throw new NoSuchElementException("no such slot");
        }
        if (!isWithin(what, 0, 1)) {
            throw new NoSuchElementException("a slot has an artist (0) and a mode (1)");
        }
        return what == 0 ? programme.artistAt(slot) : programme.modeAt(slot);
    }

    public int wrong() {
        return programme.firstFault();
    }

    public int best() {
        planner.plan(0);
        return programme.worth();
    }

    public int mend() {
        return planner.plan(Planner.COST_OF_CHANGE);
    }

    // ---- pieces

    public int piece(int mode, int minutes, int liking, boolean main) {
        if (!modes.has(mode) || !isWithin(minutes, 1, LONGEST_PIECE) || !isWithin(liking, 0, MOST_LIKING)) {
            return NONE;
        }
        return pieces.add(mode, minutes, liking, main);
    }

    public boolean played(int piece, int day) {
        if (!pieces.has(piece) || !isWithin(day, 0, LAST_DAY)) {
            return false;
        }
        pieces.lastDays[piece] = day;
        return true;
    }

    public int row(int day, int minutes) {
        if (!isWithin(day, 0, LAST_DAY) || !isWithin(minutes, 1, LONGEST_ROW)) {
            return NONE;
        }
        return pieces.findRow(day, minutes);
    }

    public int told(int i) {
        return isWithin(i, 0, pieces.latestSize - 1) ? pieces.latest[i] : NONE;
    }

    // ---- prizes

    public int vote(int judge, int artist) {
        if (!isWithin(judge, 0, JUDGES - 1) || !artists.has(artist)) {
            return NONE;
        }
        return jury.append(judge, artist);
    }

    public boolean kin(int judge, int artist, boolean is) {
        if (!isWithin(judge, 0, JUDGES - 1) || !artists.has(artist)) {
            return false;
        }
        jury.families[judge] = withBit(jury.families[judge], artist, is);
        return true;
    }

    public int points(int artist) {
        return artists.has(artist) ? jury.sumFor(artist) : NONE;
    }

    public int prize(int i) {
        return artists.has(i) ? jury.artistAtPlace(i) : NONE;
    }

    private static boolean isWithin(int v, int least, int most) {
        return v >= least && v <= most;
    }

    private static boolean hasBit(int bits, int i) {
        return (bits >> i & 1) != 0;
    }

    private static int withBit(int bits, int i, boolean is) {
        return is ? bits | 1 << i : bits & ~(1 << i);
    }

    /** The MODES, and how near two of them may be. */
    private static final class Modes {
        final int[] notes = new int[MOST_MODES];
        final int[] hours = new int[MOST_MODES];
        int size = 0;
        int limit = MOST_LIMIT;

        boolean has(int mode) {
            return isWithin(mode, 0, size - 1);
        }

        int add(int itsNotes, int itsHours) {
            if (size >= MOST_MODES) {
                return NONE;
            }
            notes[size] = itsNotes;
            hours[size] = itsHours;
            size++;
            return size - 1;
        }

        int shared(int a, int b) {
            return Integer.bitCount(notes[a] & notes[b]);
        }

        boolean areTooNear(int a, int b) {
            return shared(a, b) > limit;
        }
    }

    /** The ARTISTS; who is ill and who is whose rival stands in bits. */
    private static final class Artists {
        final int[] ranks = new int[MOST_ARTISTS];
        final int[] rivals = new int[MOST_ARTISTS];
        final int[][] likings = new int[MOST_ARTISTS][MOST_MODES];
        int sick = 0;
        int size = 0;

        boolean has(int artist) {
            return isWithin(artist, 0, size - 1);
        }

        int add(int rank) {
            if (size >= MOST_ARTISTS) {
                return NONE;
            }
            ranks[size] = rank;
            size++;
            return size - 1;
        }
    }

    /** THE PROGRAMME as it was told, good or not. */
    private static final class Programme {
        static final int REASONS = 8;

        final Modes modes;
        final Artists artists;
        final int[] options = new int[MOST_SLOTS];
        final int[] hourOf = new int[MOST_SLOTS];
        int evenings;
        int hours;
        int slots;

        Programme(Modes modes, Artists artists) {
            this.modes = modes;
            this.artists = artists;
            begin(1, 1);
        }

        void begin(int itsEvenings, int itsHours) {
            evenings = itsEvenings;
            hours = itsHours;
            slots = itsEvenings * itsHours;
            Arrays.fill(options, NOBODY);
            int slot = 0;
            for (int evening = 0; evening < evenings; evening++) {
                for (int hour = 0; hour < hours; hour++) {
                    hourOf[slot] = hour;
                    slot++;
                }
            }
        }

        boolean hasSlot(int slot) {
            return isWithin(slot, 0, slots - 1);
        }

        boolean isFilled(int slot) {
            return options[slot] != NOBODY;
        }

        int artistAt(int slot) {
            return isFilled(slot) ? options[slot] / MOST_MODES : NONE;
        }

        int modeAt(int slot) {
            return isFilled(slot) ? options[slot] % MOST_MODES : NONE;
        }

        int filledSlots() {
            int filled = 0;
            for (int slot = 0; slot < slots; slot++) {
                if (isFilled(slot)) {
                    filled++;
                }
            }
            return filled;
        }

        int worth() {
            int sum = 0;
            for (int slot = 0; slot < slots; slot++) {
                if (isFilled(slot)) {
                    sum += artists.likings[artistAt(slot)][modeAt(slot)];
                }
            }
            return sum;
        }

        int firstFault() {
            for (int reason = 0; reason < REASONS; reason++) {
                for (int slot = 0; slot < slots; slot++) {
                    if (isFilled(slot) && isFault(reason, slot)) {
                        return 10 * (reason + 1) + slot;
                    }
                }
            }
            return 0;
        }

        private boolean isFault(int reason, int slot) {
            int artist = artistAt(slot);
            int mode = modeAt(slot);
            switch (reason) {
                case 0:
                    return hasBit(artists.sick, artist);
                case 1:
                    return isArtistAhead(slot);
                case 2:
                    return artists.likings[artist][mode] == 0;
                case 3:
                    return !hasBit(modes.hours[mode], hourOf[slot]);
                case 7:
                    return isTooNearOneAhead(slot);
                default:
                    return clashesInEvening(reason, slot);
            }
        }

        private boolean isArtistAhead(int slot) {
            for (int ahead = 0; ahead < slot; ahead++) {
                if (artistAt(ahead) == artistAt(slot)) {
                    return true;
                }
            }
            return false;
        }

        private boolean clashesInEvening(int reason, int slot) {
            for (int ahead = slot - hourOf[slot]; ahead < slot; ahead++) {
                if (isFilled(ahead) && clash(reason, ahead, slot)) {
                    return true;
                }
            }
            return false;
        }

        private boolean clash(int reason, int ahead, int slot) {
            switch (reason) {
                case 4:
                    return modeAt(ahead) == modeAt(slot);
                case 5:
                    return artists.ranks[artistAt(ahead)] > artists.ranks[artistAt(slot)];
                default:
                    return hasBit(artists.rivals[artistAt(slot)], artistAt(ahead));
            }
        }

        private boolean isTooNearOneAhead(int slot) {
            for (int ahead = slot - 1; ahead >= slot - hourOf[slot]; ahead--) {
                if (isFilled(ahead)) {
                    return modes.areTooNear(modeAt(ahead), modeAt(slot));
                }
            }
            return false;
        }
    }

    /**
     * Finds the BEST and the NEAREST programme.
     *
     * A programme's VALUE is one number that orders programmes as the document does: its worth (less
     * what the changed slots cost) times WHOLE, less its options read as one number of base OPTIONS
     * with the first slot ahead. As that number is below WHOLE, it only parts programmes of equal
     * worth, no two programmes have the same value, and a value tells its programme. It is a sum over
     * slots, so evenings, which share nothing but the artists, can be filled one by one.
     */
    private static final class Planner {
        // Above the worth of any programme, so that fewer changes come ahead of all worth.
        static final int COST_OF_CHANGE = 1000;

        static final long WHOLE = 2565726409L;
        static final long[] PLACES = {69343957L, 1874161L, 50653L, 1369L, 37L, 1L};
        static final long IMPOSSIBLE = Long.MIN_VALUE;
        static final int COMPANIES = 64;
        static final int ALL_MODES = 63;

        final Modes modes;
        final Artists artists;
        final Programme programme;
        final long[][] values = new long[MOST_SLOTS][OPTIONS];
        final int[][] choices = new int[HOURS_OF_EVENING][NOBODY];
        final int[] choiceCounts = new int[HOURS_OF_EVENING];
        final int[] followers = new int[MOST_ARTISTS];
        final int[] farModes = new int[MOST_MODES];

        // The greatest value of the evening at hand, for each company of artists that plays in it.
        final long[] ofCompany = new long[COMPANIES];
        // The greatest value of all later evenings, for each set of artists taken ahead of them.
        final long[] ofLater = new long[COMPANIES];
        int firstSlot = 0;

        Planner(Modes modes, Artists artists, Programme programme) {
            this.modes = modes;
            this.artists = artists;
            this.programme = programme;
        }

        /** Makes THE PROGRAMME the good one of greatest value; answers how many slots were changed. */
        int plan(int costOfChange) {
            for (int slot = 0; slot < programme.slots; slot++) {
                weighOptions(slot, costOfChange);
            }
            for (int hour = 0; hour < programme.hours; hour++) {
                listChoices(hour);
            }
            listFollowers();
            listFarModes();
            Arrays.fill(ofLater, 0L);
            for (int evening = programme.evenings - 1; evening >= 0; evening--) {
                Arrays.fill(ofCompany, IMPOSSIBLE);
                firstSlot = evening * programme.hours;
                fillFrom(0, 0, (1 << artists.size) - 1, ALL_MODES, ALL_MODES, 0L);
                joinEvening();
            }
            return carryOut(ofLater[0]);
        }

        private void weighOptions(int slot, int costOfChange) {
            for (int option = 0; option < OPTIONS; option++) {
                long worth = 0;
                if (option != NOBODY) {
                    worth = artists.likings[option / MOST_MODES][option % MOST_MODES];
                }
                if (option != programme.options[slot]) {
                    worth -= costOfChange;
                }
                values[slot][option] = worth * WHOLE - option * PLACES[slot];
            }
        }

        /** The options that are good in a slot of this hour, whatever the other slots hold. */
        private void listChoices(int hour) {
            int found = 0;
            for (int option = 0; option < NOBODY; option++) {
                int artist = option / MOST_MODES;
                int mode = option % MOST_MODES;
                if (artists.likings[artist][mode] > 0 && !hasBit(artists.sick, artist)
                        && hasBit(modes.hours[mode], hour)) {
                    choices[hour][found] = option;
                    found++;
                }
            }
            choiceCounts[hour] = found;
        }

        private void listFollowers() {
            for (int artist = 0; artist < artists.size; artist++) {
                followers[artist] = 0;
                for (int later = 0; later < artists.size; later++) {
                    boolean may = later != artist && artists.ranks[later] >= artists.ranks[artist]
                            && !hasBit(artists.rivals[artist], later);
                    followers[artist] = withBit(followers[artist], later, may);
                }
            }
        }

        private void listFarModes() {
            for (int mode = 0; mode < modes.size; mode++) {
                farModes[mode] = 0;
                for (int other = 0; other < modes.size; other++) {
                    farModes[mode] = withBit(farModes[mode], other, !modes.areTooNear(mode, other));
                }
            }
        }

        /**
         * Tries all that can stand in an evening from an hour on, behind a company whose value is
         * known: mayCome has the artists and free the modes that it leaves, far the modes that are
         * not too near its latest one.
         */
        private void fillFrom(int hour, int company, int mayCome, int free, int far, long value) {
            if (hour >= programme.hours) {
                ofCompany[company] = Math.max(ofCompany[company], value);
                return;
            }
            for (int i = 0; i < choiceCounts[hour]; i++) {
                int option = choices[hour][i];
                if (hasBit(mayCome, option / MOST_MODES) && hasBit(free & far, option % MOST_MODES)) {
                    fillWith(option, hour, company, mayCome, free, value);
                }
            }
            fillFrom(hour + 1, company, mayCome, free, far, value + values[firstSlot + hour][NOBODY]);
        }

        private void fillWith(int option, int hour, int company, int mayCome, int free, long value) {
            int artist = option / MOST_MODES;
            int mode = option % MOST_MODES;
            fillFrom(hour + 1, withBit(company, artist, true), mayCome & followers[artist],
                    withBit(free, mode, false), farModes[mode], value + values[firstSlot + hour][option]);
        }

        /** Puts the evening at hand ahead of the later ones. */
        private void joinEvening() {
            int companies = 1 << artists.size;
            // Upwards: a larger set's value must still be that of the later evenings alone.
            for (int taken = 0; taken < companies; taken++) {
                long greatest = IMPOSSIBLE;
                for (int company = 0; company < companies; company++) {
                    if ((company & taken) == 0 && ofCompany[company] != IMPOSSIBLE) {
                        greatest = Math.max(greatest, ofCompany[company] + ofLater[taken | company]);
                    }
                }
                ofLater[taken] = greatest;
            }
        }

        private int carryOut(long value) {
            long number = Math.floorMod(-value, WHOLE);
            int changed = 0;
            for (int slot = 0; slot < programme.slots; slot++) {
                int option = (int) (number / PLACES[slot] % OPTIONS);
                if (option != programme.options[slot]) {
                    programme.options[slot] = option;
                    changed++;
                }
            }
            return changed;
        }
    }

    /** The PIECES and the latest row; sets of pieces stand in bits. */
    private static final class Pieces {
        static final int FIRST_REST = 7;

        final Modes modes;
        final int[] modeOf = new int[MOST_PIECES];
        final int[] minutes = new int[MOST_PIECES];
        final int[] likings = new int[MOST_PIECES];
        final int[] lastDays = new int[MOST_PIECES];
        final int[] followers = new int[MOST_PIECES];
        final int[] latest = new int[MOST_PIECES];
        // For each set, the pieces that can begin a row of just this set.
        final int[] firsts = new int[SETS_OF_PIECES];
        int mains = 0;
        int size = 0;
        int rest = FIRST_REST;
        int latestSize = 0;

        Pieces(Modes modes) {
            this.modes = modes;
        }

        boolean has(int piece) {
            return isWithin(piece, 0, size - 1);
        }

        int add(int mode, int itsMinutes, int liking, boolean main) {
            if (size >= MOST_PIECES) {
                return NONE;
            }
            modeOf[size] = mode;
            minutes[size] = itsMinutes;
            likings[size] = liking;
            lastDays[size] = NONE;
            mains = withBit(mains, size, main);
            size++;
            return size - 1;
        }

        int findRow(int day, int mostMinutes) {
            int ready = readyOn(day);
            listFollowers();
            int found = 0;
            // Upwards: a set's firsts need those of its parts, all of them smaller numbers.
            for (int set = 1; set < 1 << size; set++) {
                if ((set & ~ready) == 0) {
                    firsts[set] = firstsOf(set);
                    if (isGood(set, mostMinutes) && isBetter(set, found)) {
                        found = set;
                    }
                }
            }
            if (found == 0) {
                return NONE;
            }
            writeLatest(found);
            return sum(likings, found);
        }

        private int readyOn(int day) {
            int ready = 0;
            for (int piece = 0; piece < size; piece++) {
                boolean is = lastDays[piece] == NONE || Math.abs(day - lastDays[piece]) >= rest;
                ready = withBit(ready, piece, is);
            }
            return ready;
        }

        private void listFollowers() {
            for (int piece = 0; piece < size; piece++) {
                followers[piece] = 0;
                for (int next = 0; next < size; next++) {
                    boolean may = !modes.areTooNear(modeOf[piece], modeOf[next]);
                    followers[piece] = withBit(followers[piece], next, may);
                }
            }
        }

        private int firstsOf(int set) {
            int found = 0;
            for (int piece = 0; piece < size; piece++) {
                if (hasBit(set, piece)) {
                    int others = withBit(set, piece, false);
                    boolean can = others == 0 || (firsts[others] & followers[piece]) != 0;
                    found = withBit(found, piece, can);
                }
            }
            return found;
        }

        private boolean isGood(int set, int mostMinutes) {
            return firsts[set] != 0 && Integer.bitCount(set & mains) == 1 && sum(minutes, set) <= mostMinutes;
        }

        private boolean isBetter(int set, int than) {
            if (than == 0) {
                return true;
            }
            int more = sum(likings, set) - sum(likings, than);
            if (more != 0) {
                return more > 0;
            }
            int fewer = Integer.bitCount(than) - Integer.bitCount(set);
            if (fewer != 0) {
                return fewer > 0;
            }
            return firstRow(set) < firstRow(than);
        }

        private int sum(int[] of, int set) {
            int sum = 0;
            for (int piece = 0; piece < size; piece++) {
                if (hasBit(set, piece)) {
                    sum += of[piece];
                }
            }
            return sum;
        }

        /** The first row of a set, each piece a decimal digit: so rows of one length compare as numbers. */
        private long firstRow(int set) {
            long row = 0;
            int left = set;
            int open = firsts[set];
            for (int i = 0; i < size && open != 0; i++) {
                int piece = Integer.numberOfTrailingZeros(open);
                row = row * 10 + piece;
                left = withBit(left, piece, false);
                open = firsts[left] & followers[piece];
            }
            return row;
        }

        private void writeLatest(int set) {
            latestSize = Integer.bitCount(set);
            long row = firstRow(set);
            for (int i = latestSize - 1; i >= 0; i--) {
                latest[i] = (int) (row % 10);
                row /= 10;
            }
        }
    }

    /** The JUDGES' rows of artists and whose kin they are. */
    private static final class Jury {
        final Artists artists;
        final int[][] rows = new int[JUDGES][MOST_ARTISTS];
        final int[] sizes = new int[JUDGES];
        final int[] families = new int[JUDGES];
        final int[] sums = new int[MOST_ARTISTS];

        Jury(Artists artists) {
            this.artists = artists;
        }

        int append(int judge, int artist) {
            int size = sizes[judge];
            for (int i = 0; i < size; i++) {
                if (rows[judge][i] == artist) {
                    return NONE;
                }
            }
            if (size >= MOST_ARTISTS) {
                return NONE;
            }
            rows[judge][size] = artist;
            sizes[judge] = size + 1;
            return size + 1;
        }

        int sumFor(int artist) {
            int sum = 0;
            for (int judge = 0; judge < JUDGES; judge++) {
                if (!hasBit(families[judge], artist)) {
                    sum += fromJudge(judge, artist);
                }
            }
            return sum;
        }

        private int fromJudge(int judge, int artist) {
            int ahead = 0;
            for (int i = 0; i < sizes[judge]; i++) {
                if (rows[judge][i] == artist) {
                    return Math.max(0, POINTS_OF_FIRST - ahead);
                }
                if (!hasBit(families[judge], rows[judge][i])) {
                    ahead++;
                }
            }
            return 0;
        }

        int artistAtPlace(int place) {
            for (int artist = 0; artist < artists.size; artist++) {
                sums[artist] = sumFor(artist);
            }
            for (int artist = 0; artist < artists.size; artist++) {
                if (placeOf(artist) == place) {
                    return artist;
                }
            }
            return NONE;
        }

        private int placeOf(int artist) {
            int ahead = 0;
            for (int other = 0; other < artists.size; other++) {
                if (isAhead(other, artist)) {
                    ahead++;
                }
            }
            return ahead;
        }

        private boolean isAhead(int a, int b) {
            if (sums[a] != sums[b]) {
                return sums[a] > sums[b];
            }
            if (artists.ranks[a] != artists.ranks[b]) {
                return artists.ranks[a] > artists.ranks[b];
            }
            return a < b;
        }
    }
}
