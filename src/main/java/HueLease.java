/**
 * The dyers' lease of colours: who holds how many drops of which colour, what
 * they pay for it, and what becomes of it day by day. The words in capitals
 * are those of the document (../shared/DOC.md).
 */
public final class HueLease {
    public static final int BAD = -1, STATE = -2, FULL = -3, NONE = -4;

    private static final int MOST_COLOURS = 5, MOST_PEOPLE = 4, MOST_KINDS = 4;
    private static final int MOST_DROPS = 99, MOST_PURSE = 999, MOST_TOLD_PURSE = 99, MOST_EARNED = 99;
    private static final int MOST_LIGHT = 9, MOST_HUE = 999, MOST_OFF = 27;
    private static final int DAYS_AT_ONCE = 30, DAYS_AHEAD = 60, END_OF_DAYS = 1000;
    private static final int DAYS_TO_SEE = 20, DAYS_OF_WEATHER = 8;
    private static final int DAYS_TO_LEND = 10, DAYS_TO_CHOOSE = 20;
    private static final int MOST_PICKED = 6, MOST_TOLD_DROPS = 30;
    private static final int TAPE_BYTES = 160, MOST_SEEN = 6, IMAGES = 2;
    private static final int SHEETS = 4, LANES = 3, CELLS = 40, MOST_LOANS = 13;

    /** Faults that the machine would find in a SHEET. */
    private static final int NO_FAULT = 0, NULL = 1, INDEX = 2, CAST = 3, SIZE = 4;

    /** By KIND: plain, lasting (plain + 1), royal (2 * lasting), fugitive (plain / 2). */
    private static final int[] RENTS = {2, 3, 6, 1};
    /** By KIND: plain, lasting, royal (as lasting), fugitive (3 * plain). */
    private static final int[] FADINGS = {1, 0, 0, 3};

    private final Books now = new Books();
    /** Where days are tried out; what it holds is worth nothing between two calls. */
    private final Books trial = new Books();
    private final Books[] images = new Books[IMAGES];
    private final boolean[] kept = new boolean[IMAGES];
    /** One world for each KIND that a COLOUR might be of. */
    private final Books[] worlds = new Books[MOST_KINDS];
    private final int[] hues = new int[MOST_KINDS];
    private final Tape tape = new Tape();
    private final Looks looks = new Looks();
    private final Mixer mixer = new Mixer();
    private final Weather weather = new Weather();
    private final Sheet[] sheets = new Sheet[SHEETS];
    private int tornFault = NO_FAULT;

    public HueLease() {
        for (int k = 0; k < IMAGES; k++) {
            images[k] = new Books();
        }
        for (int k = 0; k < MOST_KINDS; k++) {
            worlds[k] = new Books();
        }
        for (int k = 0; k < SHEETS; k++) {
            sheets[k] = new Sheet();
        }
    }

    // ---- the text, what there is

    public int feed(int c) {
        if (!within(c, 0, 127)) {
            return BAD;
        }
        if (tape.length >= TAPE_BYTES) {
            return FULL;
        }
        tape.bytes[tape.length] = c;
        tape.length++;
        return tape.length;
    }

    public int end(int n) {
        int had = tape.length;
        if (!within(n, 0, had)) {
            return BAD;
        }
        tape.length = n;
        return had;
    }

    public int text() {
        int lines = tape.readLines();
        tape.length = 0;
        if (tape.fault != NO_FAULT) {
            return -10 - tape.place;
        }
        now.takeFrom(tape.draft);
        looks.size = 0;
        for (int k = 0; k < IMAGES; k++) {
            kept[k] = false;
        }
        return lines;
    }

    public int fault() {
        return tape.fault;
    }

    public int rule(int what) {
        switch (what) {
            case 0: return now.colours;
            case 1: return now.people;
            case 2: return now.day;
            case 3: return now.seizures;
            case 4: return now.inVats();
            case 5: return now.heldByAll();
            default: return BAD;
        }
    }

    public int colour(int c, int what) {
        if (!now.hasColour(c)) {
            return BAD;
        }
        switch (what) {
            case 0: return now.kindOf[c];
            case 1: return now.lights[3 * c];
            case 2: return now.lights[3 * c + 1];
            case 3: return now.lights[3 * c + 2];
            case 4: return now.vats[c];
            case 5: return now.rentOf(c);
            case 6: return now.heldOf(c);
            default: return BAD;
        }
    }

    public int one(int p, int what) {
        if (!now.hasOne(p)) {
            return BAD;
        }
        switch (what) {
            case 0: return now.purses[p];
            case 1: return now.earned[p];
            case 2: return now.hueOfOne(p);
            case 3: return now.heldBy(p);
            case 4: return now.rentOfDrops(now.held, p * MOST_COLOURS);
            default: return BAD;
        }
    }

    public int holds(int p, int c) {
        if (!now.hasOne(p) || !now.hasColour(c)) {
            return BAD;
        }
        return now.held[p * MOST_COLOURS + c];
    }

    public int off(int p, int h) {
        if (!now.hasOne(p) || !isHue(h)) {
            return BAD;
        }
        return offBetween(now.hueOfOne(p), h);
    }

    // ---- what is changed

    public int alter(int c, int what, int v) {
        if (!now.hasColour(c) || !within(what, 0, 4) || !within(v, 0, mostToAlter(what))) {
            return BAD;
        }
        int was = colour(c, what);
        if (what == 0) {
            now.kindOf[c] = v;
        } else if (what == 4) {
            now.vats[c] = v;
        } else {
            now.lights[3 * c + what - 1] = v;
        }
        return was;
    }

    public int pay(int p, int what, int v) {
        if (!now.hasOne(p) || !within(what, 0, 1)
                || !within(v, 0, what == 0 ? MOST_PURSE : MOST_EARNED)) {
            return BAD;
        }
        int was = one(p, what);
        if (what == 0) {
            now.purses[p] = v;
        } else {
            now.earned[p] = v;
        }
        return was;
    }

    public int lend(int p, int c, int n) {
        return now.giveLoan(p, c, n);
    }

    public int bring(int p, int c, int n) {
        if (!now.hasOne(p) || !now.hasColour(c) || !within(n, 1, MOST_DROPS)) {
            return BAD;
        }
        if (now.held[p * MOST_COLOURS + c] < n) {
            return STATE;
        }
        now.takeBack(p, c, n);
        return now.held[p * MOST_COLOURS + c];
    }

    // ---- days

    public int days(int n) {
        if (!within(n, 0, DAYS_AT_ONCE)) {
            return BAD;
        }
        if (now.day + n >= END_OF_DAYS) {
            return FULL;
        }
        int before = now.seizures;
        now.passDays(n);
        return now.seizures - before;
    }

    public int runs(int n, int what) {
        if (!within(n, 0, DAYS_AHEAD) || !within(what, 0, 3)) {
            return BAD;
        }
        trial.takeFrom(now);
        int first = NONE;
        for (int i = 1; i <= n; i++) {
            trial.passDay(1);
            if (first == NONE && trial.seizures > now.seizures) {
                first = i;
            }
        }
        switch (what) {
            case 0: return trial.heldByAll();
            case 1: return trial.seizures - now.seizures;
            case 2: return trial.paid;
            default: return first;
        }
    }

    public int ahead(int p, int n, int what) {
        if (!now.hasOne(p) || !within(n, 0, DAYS_AHEAD) || !within(what, 0, 2)) {
            return BAD;
        }
        trial.takeFrom(now);
        trial.passDaysOfOne(p, n);
        switch (what) {
            case 0: return trial.hueOfOne(p);
            case 1: return trial.purses[p];
            default: return trial.heldBy(p);
        }
    }

    public int lasts(int p) {
        if (!now.hasOne(p)) {
            return BAD;
        }
        trial.takeFrom(now);
        for (int n = 0; n <= DAYS_AHEAD; n++) {
            if (trial.heldBy(p) == 0) {
                return n;
            }
            trial.passDayOfOne(p, 1);
        }
        return NONE;
    }

    // ---- what is best

    public int mix(int h, int n, int what) {
        if (!isHue(h) || !within(n, 1, MOST_PICKED) || !within(what, 0, now.colours)) {
            return BAD;
        }
        mixer.tryAll(now, h, n, MOST_OFF);
        if (mixer.leastOff > MOST_OFF) {
            return NONE;
        }
        return what == 0 ? mixer.leastOff : mixer.nearest[what - 1];
    }

    public int cheap(int h, int d, int n) {
        if (!isHue(h) || !within(d, 0, MOST_OFF) || !within(n, 1, MOST_PICKED)) {
            return BAD;
        }
        mixer.tryAll(now, h, n, d);
        return mixer.leastRent;
    }

    public int more(int p, int c) {
        if (!now.hasOne(p) || !now.hasColour(c)) {
            return BAD;
        }
        int bound = seizuresIfLent(p, c, 0);
        int most = Math.min(now.vats[c], MOST_DROPS - now.held[p * MOST_COLOURS + c]);
        for (int n = most; n > 0; n--) {
            if (seizuresIfLent(p, c, n) <= bound) {
                return n;
            }
        }
        return 0;
    }

    public int swap(int what) {
        if (!within(what, 0, 1)) {
            return BAD;
        }
        int fewest = seizuresIfExchanged(0, 0);
        int who = NONE;
        for (int p = 0; p < now.people; p++) {
            for (int q = p + 1; q < now.people; q++) {
                int seizures = seizuresIfExchanged(p, q);
                if (seizures < fewest) {
                    fewest = seizures;
                    who = 10 * p + q;
                }
            }
        }
        return who == NONE || what == 0 ? who : fewest;
    }

    public int shed(int p, int what) {
        if (!now.hasOne(p) || !within(what, 0, 1)) {
            return BAD;
        }
        trial.takeFrom(now);
        trial.passDaysOfOne(p, DAYS_TO_CHOOSE);
        int most = trial.heldBy(p);
        int which = NONE;
        for (int c = 0; c < now.colours; c++) {
            trial.takeFrom(now);
            trial.takeBack(p, c, now.held[p * MOST_COLOURS + c]);
            trial.passDaysOfOne(p, DAYS_TO_CHOOSE);
            if (trial.heldBy(p) > most) {
                most = trial.heldBy(p);
                which = c;
            }
        }
        return which == NONE || what == 0 ? which : most;
    }

    public int need(int p, int n) {
        if (!now.hasOne(p) || !within(n, 0, DAYS_AHEAD)) {
            return BAD;
        }
        for (int e = 0; e <= MOST_EARNED; e++) {
            if (keepsAll(p, n, e)) {
                return e;
            }
        }
        return NONE;
    }

    public int kind(int c, int n, int what) {
        if (!now.hasColour(c) || !within(n, 0, DAYS_AHEAD) || !within(what, 0, 1)) {
            return BAD;
        }
        int most = -1;
        int which = 0;
        for (int k = 0; k < MOST_KINDS; k++) {
            trial.takeFrom(now);
            trial.kindOf[c] = k;
            trial.passDays(n);
            int drops = trial.heldByAll();
            if (drops > most) {
                most = drops;
                which = k;
            }
        }
        return what == 0 ? which : most;
    }

    // ---- sunny days

    public long luck(int v, int p, int n, int h, int what) {
        if (!within(v, 0, 10) || !now.hasOne(p) || !within(n, 0, DAYS_OF_WEATHER)
                || !isHue(h) || !within(what, 0, 1)) {
            return BAD;
        }
        weather.who = p;
        weather.hue = h;
        return weather.meanOver(now, v, n, what);
    }

    public long mean(int v, int n, int what) {
        if (!within(v, 0, 10) || !within(n, 0, DAYS_OF_WEATHER) || !within(what, 0, 1)) {
            return BAD;
        }
        weather.who = Weather.ALL;
        return weather.meanOver(now, v, n, what);
    }

    // ---- what it was

    public int see(int n, int p, int h) {
        if (!within(n, 0, DAYS_TO_SEE) || !now.hasOne(p) || !isHue(h)) {
            return BAD;
        }
        if (looks.size >= MOST_SEEN) {
            return FULL;
        }
        looks.onDay[looks.size] = n;
        looks.who[looks.size] = p;
        looks.hue[looks.size] = h;
        looks.size++;
        return looks.size;
    }

    public int forget(int n) {
        int had = looks.size;
        if (!within(n, 0, had)) {
            return BAD;
        }
        looks.size = n;
        return had;
    }

    public int kinds(int c) {
        return now.hasColour(c) ? kindsLeft(c) : BAD;
    }

    public int drops(int p, int c) {
        if (!now.hasOne(p) || !now.hasColour(c)) {
            return BAD;
        }
        int bits = 0;
        for (int n = 0; n <= MOST_TOLD_DROPS; n++) {
            trial.takeFrom(now);
            trial.held[p * MOST_COLOURS + c] = n;
            if (looks.fit(trial)) {
                bits |= 1 << n;
            }
        }
        return bits;
    }

    public int ask(int c, int what) {
        if (!now.hasColour(c) || !within(what, 0, 1)) {
            return BAD;
        }
        int left = kindsLeft(c);
        int fewest = Integer.bitCount(left);
        int look = NONE;
        for (int k = 0; k < MOST_KINDS; k++) {
            worlds[k].takeFrom(now);
            worlds[k].kindOf[c] = k;
        }
        for (int n = 0; n <= DAYS_TO_SEE; n++) {
            for (int p = 0; p < now.people; p++) {
                int worst = worstLeft(left, p);
                if (worst < fewest) {
                    fewest = worst;
                    look = 10 * n + p;
                }
            }
            for (int k = 0; k < MOST_KINDS; k++) {
                worlds[k].passDay(1);
            }
        }
        return look == NONE || what == 0 ? look : fewest;
    }

    // ---- by a seed

    public int drift(int seed, int n, int what) {
        if (!within(n, 1, DAYS_AHEAD) || !within(what, 0, 1)) {
            return BAD;
        }
        if (now.colours == 0 || now.people == 0) {
            return STATE;
        }
        trial.takeFrom(now);
        int next = seed;
        for (int i = 0; i < n; i++) {
            next = next * 1103515245 + 12345;
            int got = (next >>> 16) & 0x7fff;
            // A loan that lend() would refuse is left out: its answer is not looked at.
            trial.giveLoan(got % now.people, got / 8 % now.colours, 1 + got / 64 % 9);
            trial.passDay(1);
        }
        return what == 0 ? trial.heldByAll() : trial.seizures - now.seizures;
    }

    // ---- images, sheets

    public int keep(int k) {
        if (!within(k, 0, IMAGES - 1)) {
            return BAD;
        }
        int was = kept[k] ? 1 : 0;
        images[k].takeFrom(now);
        kept[k] = true;
        return was;
    }

    public int back(int k) {
        if (!within(k, 0, IMAGES - 1)) {
            return BAD;
        }
        if (!kept[k]) {
            return STATE;
        }
        now.takeFrom(images[k]);
        return now.day;
    }

    public int sheet(int k, int lane, int n) {
        if (!within(k, 0, SHEETS - 1) || !within(lane, 0, LANES - 1) || n > CELLS) {
            return BAD;
        }
        if (n < 0) {
            return -10 - SIZE;
        }
        sheets[k].renew(lane, n);
        return 1;
    }

    public int lay(int k, int i, int v) {
        if (!within(k, 0, SHEETS - 1)) {
            return BAD;
        }
        Sheet sheet = sheets[k];
        if (sheet.size < 0) {
            return -10 - NULL;
        }
        if (!within(i, 0, sheet.size - 1)) {
            return -10 - INDEX;
        }
        sheet.cells[i] = sheet.cut(v);
        return 1;
    }

    public int read(int k, int lane, int f, int n) {
        if (!within(k, 0, SHEETS - 1) || !within(lane, 0, LANES - 1) || !within(n, 0, MOST_LOANS)) {
            return BAD;
        }
        Sheet sheet = sheets[k];
        int found = n == 0 ? NO_FAULT : sheet.faultAs(lane);
        int came = 0;
        trial.takeFrom(now);
        for (int i = 0; i < n && found == NO_FAULT; i++) {
            // A long, as f may stand so high that an int would come round to below 0.
            long at = f + 3L * i;
            if (at < 0 || at + 2 >= sheet.size) {
                found = INDEX;
            } else if (!lendOnTrial(sheet.cells, (int) at)) {
                return -20 - i;
            } else {
                came++;
            }
        }
        now.takeFrom(trial);
        tornFault = found;
        return came;
    }

    public int torn() {
        return tornFault;
    }

    public int count(int what) {
        switch (what) {
            case 0: return looks.size;
            case 1: return (kept[0] ? 1 : 0) + (kept[1] ? 1 : 0);
            case 2: return tape.length;
            case 3: return sheets[0].size < 0 ? NONE : sheets[0].size;
            case 4: return sum(now.purses, 0, now.people);
            case 5: return sum(now.earned, 0, now.people);
            default: return BAD;
        }
    }

    // ---- what the calls share

    private static boolean within(int v, int least, int most) {
        return v >= least && v <= most;
    }

    private static boolean isHue(int h) {
        return within(h, 0, MOST_HUE);
    }

    private static boolean hasBit(int bits, int i) {
        return (bits & 1 << i) != 0;
    }

    private static int offBetween(int g, int h) {
        return Math.abs(g / 100 - h / 100)
                + Math.abs(g / 10 % 10 - h / 10 % 10)
                + Math.abs(g % 10 - h % 10);
    }

    private static int sum(int[] row, int from, int n) {
        int all = 0;
        for (int i = from; i < from + n && i < row.length; i++) {
            all += row[i];
        }
        return all;
    }

    private static int mostToAlter(int what) {
        if (what == 0) {
            return MOST_KINDS - 1;
        }
        return what == 4 ? MOST_DROPS : MOST_LIGHT;
    }

    /** Only his own days are run: nobody's seizures hang on what another holds. */
    private int seizuresIfLent(int p, int c, int n) {
        trial.takeFrom(now);
        trial.held[p * MOST_COLOURS + c] += n;
        trial.passDaysOfOne(p, DAYS_TO_LEND);
        return trial.seizures - now.seizures;
    }

    private int seizuresIfExchanged(int p, int q) {
        trial.takeFrom(now);
        for (int c = 0; c < MOST_COLOURS; c++) {
            trial.held[p * MOST_COLOURS + c] = now.held[q * MOST_COLOURS + c];
            trial.held[q * MOST_COLOURS + c] = now.held[p * MOST_COLOURS + c];
        }
        trial.passDays(DAYS_TO_CHOOSE);
        return trial.seizures - now.seizures;
    }

    private boolean keepsAll(int p, int n, int earned) {
        trial.takeFrom(now);
        trial.earned[p] = earned;
        for (int i = 0; i < n; i++) {
            trial.passDayOfOne(p, 1);
            if (trial.seizures > now.seizures) {
                return false;
            }
        }
        return true;
    }

    private int kindsLeft(int c) {
        int bits = 0;
        for (int k = 0; k < MOST_KINDS; k++) {
            trial.takeFrom(now);
            trial.kindOf[c] = k;
            if (looks.fit(trial)) {
                bits |= 1 << k;
            }
        }
        return bits;
    }

    /** How many of these KINDS would be left at most, once the HUE of a ONE in the worlds is known. */
    private int worstLeft(int left, int p) {
        for (int k = 0; k < MOST_KINDS; k++) {
            hues[k] = worlds[k].hueOfOne(p);
        }
        int worst = 0;
        for (int k = 0; k < MOST_KINDS; k++) {
            int alike = 0;
            for (int j = 0; j < MOST_KINDS; j++) {
                if (hasBit(left, k) && hasBit(left, j) && hues[j] == hues[k]) {
                    alike++;
                }
            }
            worst = Math.max(worst, alike);
        }
        return worst;
    }

    private boolean lendOnTrial(int[] cells, int at) {
        if (at < 0 || at > cells.length - 3) {
            return false;
        }
        return trial.giveLoan(cells[at], cells[at + 1], cells[at + 2]) >= 0;
    }

    /** All that an IMAGE keeps. */
    private static final class Books {
        int colours;
        int people;
        int day;
        int seizures;
        /** RENT that was paid since these books were copied. */
        int paid;
        final int[] kindOf = new int[MOST_COLOURS];
        /** Three for each COLOUR. */
        final int[] lights = new int[3 * MOST_COLOURS];
        final int[] vats = new int[MOST_COLOURS];
        final int[] purses = new int[MOST_PEOPLE];
        final int[] earned = new int[MOST_PEOPLE];
        /** A row of MOST_COLOURS for each ONE. */
        final int[] held = new int[MOST_PEOPLE * MOST_COLOURS];

        void takeFrom(Books other) {
            colours = other.colours;
            people = other.people;
            day = other.day;
            seizures = other.seizures;
            paid = 0;
            System.arraycopy(other.kindOf, 0, kindOf, 0, MOST_COLOURS);
            System.arraycopy(other.lights, 0, lights, 0, 3 * MOST_COLOURS);
            System.arraycopy(other.vats, 0, vats, 0, MOST_COLOURS);
            System.arraycopy(other.purses, 0, purses, 0, MOST_PEOPLE);
            System.arraycopy(other.earned, 0, earned, 0, MOST_PEOPLE);
            System.arraycopy(other.held, 0, held, 0, MOST_PEOPLE * MOST_COLOURS);
        }

        boolean hasColour(int c) {
            return within(c, 0, colours - 1);
        }

        boolean hasOne(int p) {
            return within(p, 0, people - 1);
        }

        int inVats() {
            return sum(vats, 0, colours);
        }

        int heldBy(int p) {
            return sum(held, p * MOST_COLOURS, colours);
        }

        int heldByAll() {
            return sum(held, 0, people * MOST_COLOURS);
        }

        int heldOf(int c) {
            int all = 0;
            for (int p = 0; p < people; p++) {
                all += held[p * MOST_COLOURS + c];
            }
            return all;
        }

        int rentOf(int c) {
            return RENTS[kindOf[c]];
        }

        /** RENT in a DAY of a row of drops, one number for each COLOUR. */
        int rentOfDrops(int[] row, int from) {
            int all = 0;
            for (int c = 0; c < colours; c++) {
                all += row[from + c] * rentOf(c);
            }
            return all;
        }

        int hueOfDrops(int[] row, int from) {
            int all = sum(row, from, colours);
            if (all <= 0) {
                return 0;
            }
            int hue = 0;
            for (int light = 0; light < 3; light++) {
                int bright = 0;
                for (int c = 0; c < colours; c++) {
                    bright += row[from + c] * lights[3 * c + light];
                }
                hue = 10 * hue + bright / all;
            }
            return hue;
        }

        int hueOfOne(int p) {
            return hueOfDrops(held, p * MOST_COLOURS);
        }

        /** As lend() tells: BAD, STATE, or how many he HOLDS then. */
        int giveLoan(int p, int c, int n) {
            if (!hasOne(p) || !hasColour(c) || !within(n, 1, MOST_DROPS)) {
                return BAD;
            }
            int place = p * MOST_COLOURS + c;
            if (vats[c] < n || held[place] + n > MOST_DROPS) {
                return STATE;
            }
            vats[c] -= n;
            held[place] += n;
            return held[place];
        }

        void takeBack(int p, int c, int n) {
            held[p * MOST_COLOURS + c] -= n;
            vats[c] = Math.min(MOST_DROPS, vats[c] + n);
        }

        void passDays(int n) {
            for (int i = 0; i < n; i++) {
                passDay(1);
            }
        }

        void passDaysOfOne(int p, int n) {
            for (int i = 0; i < n; i++) {
                passDayOfOne(p, 1);
            }
        }

        void passDay(int fadings) {
            for (int p = 0; p < people; p++) {
                passDayOfOne(p, fadings);
            }
            day++;
        }

        /** What he pays, loses and keeps; fadings is how many times over his drops FADE. */
        void passDayOfOne(int p, int fadings) {
            purses[p] = Math.min(MOST_PURSE, purses[p] + earned[p]);
            for (int c = 0; c < colours; c++) {
                int place = p * MOST_COLOURS + c;
                int drops = held[place];
                int rent = drops * rentOf(c);
                if (drops > 0 && purses[p] >= rent) {
                    purses[p] -= rent;
                    paid += rent;
                    held[place] = Math.max(0, drops - fadings * FADINGS[kindOf[c]]);
                } else if (drops > 0) {
                    takeBack(p, c, drops);
                    seizures++;
                }
            }
        }
    }

    /** THE TAPE, and how it is read into books of its own. */
    private static final class Tape {
        static final int END = 0, NAME = 1, NUMBER = 2, STOP = 3;
        static final int NO_TOKEN = 1, NOT_HERE = 2, OUT_OF_BOUNDS = 3;
        static final int TWICE = 4, TOO_MANY = 5, NO_SUCH = 6;
        /** What a NAME begins: a number below MOST_KINDS is a COLOUR's KIND. */
        static final int NO_LINE = -1, ONE_LINE = 4, LENT_LINE = 5;

        final int[] bytes = new int[TAPE_BYTES];
        int length;
        int fault;
        int place;
        final Books draft = new Books();
        final Books blank = new Books();
        /** A bit for each ONE and COLOUR that a line told a loan of. */
        private int told;
        /** The first place that no TOKEN has been read from. */
        private int at;
        private int sort;
        private int start;
        private int value;

        /** How many lines there are; what they tell is in the draft, unless there is a fault. */
        int readLines() {
            draft.takeFrom(blank);
            fault = NO_FAULT;
            told = 0;
            at = 0;
            int lines = 0;
            boolean going = readToken() && sort != END;
            for (int i = 0; i < TAPE_BYTES && going; i++) {
                going = readLine();
                if (going) {
                    lines++;
                    going = readToken() && sort != END;
                }
            }
            if (fault == NO_FAULT && tellsOfNobody()) {
                refuse(NO_SUCH, length);
            }
            return lines;
        }

        private boolean refuse(int which, int where) {
            fault = which;
            place = where;
            return false;
        }

        private boolean readLine() {
            int line = sort == NAME ? lineOfName() : NO_LINE;
            if (line == NO_LINE) {
                return refuse(NOT_HERE, start);
            }
            if (line == LENT_LINE) {
                return readLent();
            }
            return line == ONE_LINE ? readOne() : readColour(line);
        }

        private boolean readColour(int kind) {
            int c = draft.colours;
            if (c >= MOST_COLOURS) {
                return refuse(TOO_MANY, start);
            }
            draft.colours++;
            draft.kindOf[c] = kind;
            for (int light = 0; light < 3; light++) {
                if (!readNumber(MOST_LIGHT)) {
                    return false;
                }
                draft.lights[3 * c + light] = value;
            }
            if (!readNumber(MOST_DROPS)) {
                return false;
            }
            draft.vats[c] = value;
            return readStop();
        }

        private boolean readOne() {
            int p = draft.people;
            if (p >= MOST_PEOPLE) {
                return refuse(TOO_MANY, start);
            }
            draft.people++;
            if (!readNumber(MOST_TOLD_PURSE)) {
                return false;
            }
            draft.purses[p] = value;
            if (!readNumber(MOST_EARNED)) {
                return false;
            }
            draft.earned[p] = value;
            return readStop();
        }

        private boolean readLent() {
            if (!readNumber(MOST_PEOPLE - 1)) {
                return false;
            }
            int p = value;
            if (!readNumber(MOST_COLOURS - 1)) {
                return false;
            }
            int where = p * MOST_COLOURS + value;
            if (hasBit(told, where)) {
                return refuse(TWICE, start);
            }
            told |= 1 << where;
            if (!readNumber(MOST_DROPS)) {
                return false;
            }
            draft.held[where] = value;
            return readStop();
        }

        private boolean readNumber(int most) {
            if (!readToken()) {
                return false;
            }
            if (sort != NUMBER) {
                return refuse(NOT_HERE, start);
            }
            value = 0;
            for (int i = start; i < at; i++) {
                value = 10 * value + bytes[i] - '0';
            }
            return value <= most || refuse(OUT_OF_BOUNDS, start);
        }

        private boolean readStop() {
            return readToken() && (sort == STOP || refuse(NOT_HERE, start));
        }

        private boolean tellsOfNobody() {
            for (int p = 0; p < MOST_PEOPLE; p++) {
                for (int c = 0; c < MOST_COLOURS; c++) {
                    boolean there = draft.hasOne(p) && draft.hasColour(c);
                    if (hasBit(told, p * MOST_COLOURS + c) && !there) {
                        return true;
                    }
                }
            }
            return false;
        }

        private boolean readToken() {
            while (at < length && bytes[at] == ' ') {
                at++;
            }
            start = at;
            if (at >= length) {
                sort = END;
                return true;
            }
            if (bytes[at] == ';') {
                sort = STOP;
                at++;
                return true;
            }
            if (within(bytes[at], 'a', 'z')) {
                sort = NAME;
                at = behind('a', 'z');
                return true;
            }
            sort = NUMBER;
            at = behind('0', '9');
            return within(at - start, 1, 2) || refuse(NO_TOKEN, start);
        }

        /** The first place from the start on whose byte is none of these, or the length. */
        private int behind(int least, int most) {
            int i = start;
            while (i < length && bytes[i] >= least && bytes[i] <= most) {
                i++;
            }
            return i;
        }

        private int lineOfName() {
            if (isName("plain")) {
                return 0;
            }
            if (isName("lasting")) {
                return 1;
            }
            if (isName("royal")) {
                return 2;
            }
            if (isName("fugitive")) {
                return 3;
            }
            if (isName("one")) {
                return ONE_LINE;
            }
            return isName("lent") ? LENT_LINE : NO_LINE;
        }

        private boolean isName(String name) {
            if (name.length() != at - start) {
                return false;
            }
            for (int i = 0; i < name.length(); i++) {
                if (bytes[start + i] != name.charAt(i)) {
                    return false;
                }
            }
            return true;
        }
    }

    /** What is SEEN. */
    private static final class Looks {
        int size;
        final int[] onDay = new int[MOST_SEEN];
        final int[] who = new int[MOST_SEEN];
        final int[] hue = new int[MOST_SEEN];

        /** Whether all is as SEEN from these books on, which are run ahead for it. */
        boolean fit(Books books) {
            int last = lastDay();
            for (int n = 0; n <= last; n++) {
                if (!fitOnDay(books, n)) {
                    return false;
                }
                books.passDay(1);
            }
            return true;
        }

        private boolean fitOnDay(Books books, int n) {
            for (int i = 0; i < size; i++) {
                if (onDay[i] == n && books.hueOfOne(who[i]) != hue[i]) {
                    return false;
                }
            }
            return true;
        }

        private int lastDay() {
            int last = -1;
            for (int i = 0; i < size; i++) {
                last = Math.max(last, onDay[i]);
            }
            return last;
        }
    }

    /** Goes through all ways to take some drops from the vats. */
    private static final class Mixer {
        /** 28 or more, if there is no way. */
        int leastOff;
        /** NONE, if no way is near enough. */
        int leastRent;
        /** Of the ways that are least off the first, by how few of each COLOUR it takes. */
        final int[] nearest = new int[MOST_COLOURS];
        private final int[] picked = new int[MOST_COLOURS];
        private int goal;
        private int farthest;

        void tryAll(Books books, int hue, int n, int near) {
            goal = hue;
            farthest = near;
            leastOff = MOST_OFF + 1;
            leastRent = NONE;
            pickFrom(books, 0, n);
        }

        private void pickFrom(Books books, int c, int left) {
            if (c >= books.colours || c >= MOST_COLOURS) {
                if (left == 0) {
                    weigh(books);
                }
                return;
            }
            int most = Math.min(left, books.vats[c]);
            for (int n = 0; n <= most; n++) {
                picked[c] = n;
                pickFrom(books, c + 1, left - n);
            }
        }

        private void weigh(Books books) {
            int off = offBetween(books.hueOfDrops(picked, 0), goal);
            if (off < leastOff) {
                leastOff = off;
                System.arraycopy(picked, 0, nearest, 0, MOST_COLOURS);
            }
            if (off <= farthest) {
                int rent = books.rentOfDrops(picked, 0);
                leastRent = leastRent == NONE ? rent : Math.min(leastRent, rent);
            }
        }
    }

    /** Means over all ways in which some days may be sunny or not. */
    private static final class Weather {
        static final int ALL = -1;

        /** Whose HUE is looked at; ALL: the drops that all HOLD are. */
        int who;
        int hue;
        private int odds;
        private int daysToCome;
        /** The books behind none, one, two .. of the days. */
        private final Books[] behind = new Books[DAYS_OF_WEATHER + 1];

        Weather() {
            for (int i = 0; i <= DAYS_OF_WEATHER; i++) {
                behind[i] = new Books();
            }
        }

        /** The numerator (part 0) or the denominator (1) of the mean. */
        long meanOver(Books books, int v, int n, int part) {
            odds = v;
            daysToCome = n;
            behind[0].takeFrom(books);
            long above = summed(0);
            long below = 1;
            for (int i = 0; i < n; i++) {
                below *= 10;
            }
            long common = commonDivisor(above, below);
            if (common <= 0) {
                return BAD;
            }
            return (part == 0 ? above : below) / common;
        }

        /** What is looked at, each way by its odds out of 10 for each day still to come. */
        private long summed(int depth) {
            if (depth >= daysToCome || depth >= DAYS_OF_WEATHER) {
                return lookedAt(behind[depth]);
            }
            long all = 0;
            if (odds > 0) {
                passOn(depth, 2);
                all += odds * summed(depth + 1);
            }
            if (odds < 10) {
                passOn(depth, 1);
                all += (10 - odds) * summed(depth + 1);
            }
            return all;
        }

        private void passOn(int depth, int fadings) {
            Books next = behind[depth + 1];
            next.takeFrom(behind[depth]);
            if (who == ALL) {
                next.passDay(fadings);
            } else {
                next.passDayOfOne(who, fadings);
            }
        }

        private long lookedAt(Books books) {
            if (who == ALL) {
                return books.heldByAll();
            }
            return books.hueOfOne(who) == hue ? 1 : 0;
        }

        private static long commonDivisor(long a, long b) {
            long x = a;
            long y = b;
            // Euclid's rests at least halve every two steps: 200 are more than any two longs need.
            for (int i = 0; i < 200 && y != 0; i++) {
                long rest = x % y;
                x = y;
                y = rest;
            }
            return x;
        }
    }

    /** A row of numbers of one lane, or nothing. */
    private static final class Sheet {
        int lane;
        /** Below 0: nothing. */
        int size = -1;
        final int[] cells = new int[CELLS];

        void renew(int newLane, int n) {
            lane = newLane;
            size = n;
            for (int i = 0; i < CELLS; i++) {
                cells[i] = 0;
            }
        }

        int cut(int v) {
            if (lane == 0) {
                return (byte) v;
            }
            return lane == 1 ? (short) v : v;
        }

        /** What the machine finds ahead of the first CELL, if the row is taken as of a lane. */
        int faultAs(int wanted) {
            if (size < 0) {
                return NULL;
            }
            return lane == wanted ? NO_FAULT : CAST;
        }
    }
}
