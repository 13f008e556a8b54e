import java.util.Arrays;

/**
 * A chapel whose members bear a book on their backs, a verse apiece, and learn it at night from one another.
 *
 * <p>Every row that an act needs is made with the object and used again, so that no act makes an object.
 */
public final class BackVerses {
    private static final int BEYOND = -1000000001;
    private static final int FULL = -1000000002;
    private static final int KIND = -1000000003;
    private static final int NONE = -1000000004;
    private static final int STATE = -1000000005;
    private static final int MISSING = -1000000006;
    private static final int SIZE = -1000000007;
    private static final int FINDINGS = 7;

    private static final int NOBODY = -1;
    private static final int SEATS = 12;
    private static final int MEMBERS = 10;
    private static final int VERSES = 10;
    private static final int ALL_VERSES = 1023;
    private static final int LEAST_DEEP = 1;
    private static final int MOST_DEEP = 9;
    private static final int FIRST_DEEP = 5;
    private static final int MOST_TIRED = 99;

    private static final int LAST_NIGHT = 99999;
    private static final int MOST_NIGHTS = 60;
    private static final int FAR_AHEAD = 100;
    private static final int NEAR_AHEAD = 40;

    private static final int SHEETS = 4;
    private static final int SHEET_NUMBERS = 40;
    private static final int TAPE_BYTES = 120;

    private final Chapel present = new Chapel();
    /** What would come is tried on this one, so that the present one never has to be put back. */
    private final Chapel trial = new Chapel();
    private final Chapel kept = new Chapel();
    private boolean keeps = false;
    private final Tape tape = new Tape();
    private final Sheet[] sheets = new Sheet[SHEETS];
    private final int[] findings = new int[FINDINGS];

    public BackVerses() {
        for (int s = 0; s < SHEETS; s++) {
            sheets[s] = new Sheet();
        }
    }

    // ---- the chapel

    public int seat(int seat) {
        if (!within(seat, 0, SEATS - 1)) {
            return found(BEYOND);
        }
        return present.sitter(seat);
    }

    public int now(int what) {
        switch (what) {
            case 0:
                return present.night;
            case 1:
                return present.gaps();
            case 2:
                return present.versesBorne();
            case 3:
                return present.versesKnown();
            case 4:
                return present.knownTogether();
            case 5:
                return present.sum(present.tired);
            default:
                return found(BEYOND);
        }
    }

    public int verse(int n) {
        if (n < 0) {
            return found(BEYOND);
        }
        int bearer = present.sitterInOrder(n);
        return bearer == NOBODY ? found(NONE) : present.verses[bearer];
    }

    // ---- members

    public int member(int kind, int seat, int verse) {
        if (!Kinds.isKind(kind) || !within(seat, 0, SEATS - 1) || !within(verse, 0, VERSES - 1)) {
            return found(BEYOND);
        }
        if (present.isFull()) {
            return found(FULL);
        }
        if (present.sitter(seat) != NOBODY) {
            return found(STATE);
        }
        return present.add(kind, seat, verse, FIRST_DEEP);
    }

    public int of(int member, int what) {
        if (!present.has(member)) {
            return found(BEYOND);
        }
        switch (what) {
            case 0:
                return present.kinds[member];
            case 1:
                return present.places[member];
            case 2:
                return present.verses[member];
            case 3:
                return present.deeps[member];
            case 4:
                return present.knows[member];
            case 5:
                return present.tired[member];
            case 6:
                return Kinds.reach(present.kinds[member], present.tired[member]);
            case 7:
                return present.felt(member);
            case 8:
                return present.getsFrom(member, present.felt(member)) ? 1 : 0;
            case 9:
                return present.told(member);
            default:
                return found(BEYOND);
        }
    }

    public int set(int member, int what, int v) {
        if (!present.has(member) || !maySet(what, v)) {
            return found(BEYOND);
        }
        int[] row = rowOf(what);
        int was = row[member];
        row[member] = v;
        return was;
    }

    private static boolean maySet(int what, int v) {
        switch (what) {
            case 2:
                return within(v, 0, VERSES - 1);
            case 3:
                return within(v, LEAST_DEEP, MOST_DEEP);
            case 4:
                return within(v, 0, ALL_VERSES);
            case 5:
                return within(v, 0, MOST_TIRED);
            default:
                return false;
        }
    }

    /** Asked only for what maySet() lets pass. */
    private int[] rowOf(int what) {
        switch (what) {
            case 2:
                return present.verses;
            case 3:
                return present.deeps;
            case 4:
                return present.knows;
            default:
                return present.tired;
        }
    }

    public int move(int member, int seat) {
        if (!present.has(member) || !within(seat, 0, SEATS - 1)) {
            return found(BEYOND);
        }
        if (!present.maySit(member, seat)) {
            return found(STATE);
        }
        int was = present.places[member];
        present.reseat(member, seat);
        return was;
    }

    public int turn(int member, int kind) {
        if (!present.has(member) || !Kinds.isKind(kind)) {
            return found(BEYOND);
        }
        int was = present.kinds[member];
        present.kinds[member] = kind;
        return was;
    }

    public int as(int member, int kind) {
        if (!present.has(member) || !Kinds.isKind(kind)) {
            return found(BEYOND);
        }
        if (!Kinds.isUnder(present.kinds[member], kind)) {
            return found(KIND);
        }
        return present.knows[member];
    }

    // ---- nights

    public int nights(int n) {
        if (!within(n, 1, MOST_NIGHTS)) {
            return found(BEYOND);
        }
        if (present.night > LAST_NIGHT - n) {
            return found(STATE);
        }
        present.passNights(n);
        return present.versesKnown();
    }

    public int on(int member, int n, int what) {
        if (!present.has(member) || !within(n, 0, FAR_AHEAD) || !within(what, 0, 1)) {
            return found(BEYOND);
        }
        trial.become(present);
        trial.passNights(n);
        return what == 0 ? trial.knows[member] : trial.tired[member];
    }

    public int learns(int member, int verse) {
        if (!present.has(member) || !within(verse, 0, VERSES - 1)) {
            return found(BEYOND);
        }
        trial.become(present);
        for (int n = 0; n <= FAR_AHEAD; n++) {
            if (trial.doesKnow(member, verse)) {
                return n;
            }
            trial.passNight();
        }
        return found(NONE);
    }

    public int spreads(int verse) {
        if (!within(verse, 0, VERSES - 1)) {
            return found(BEYOND);
        }
        trial.become(present);
        for (int n = 0; n <= FAR_AHEAD; n++) {
            if (trial.isSpread(verse)) {
                return n;
            }
            trial.passNight();
        }
        return found(NONE);
    }

    public int heresy() {
        trial.become(present);
        for (int n = 0; n <= FAR_AHEAD; n++) {
            if (trial.isHeretical()) {
                return n;
            }
            trial.passNight();
        }
        return found(NONE);
    }

    // ---- what is best

    public int best(int member, int n) {
        if (!present.has(member) || !within(n, 1, NEAR_AHEAD)) {
            return found(BEYOND);
        }
        int best = present.places[member];
        int most = -1;
        for (int seat = 0; seat < SEATS; seat++) {
            if (present.maySit(member, seat)) {
                trial.become(present);
                trial.reseat(member, seat);
                trial.passNights(n);
                int many = trial.knownBy(member);
                if (many > most) {
                    most = many;
                    best = seat;
                }
            }
        }
        return best;
    }

    public int kind(int member, int n) {
        if (!present.has(member) || !within(n, 1, NEAR_AHEAD)) {
            return found(BEYOND);
        }
        int best = 0;
        int most = -1;
        for (int kind = 0; kind < Kinds.MANY; kind++) {
            trial.become(present);
            trial.kinds[member] = kind;
            trial.passNights(n);
            int many = trial.knownBy(member);
            if (many > most) {
                most = many;
                best = kind;
            }
        }
        return best;
    }

    public int deep(int member, int other, int n) {
        if (!present.has(member) || !present.has(other) || member == other || !within(n, 0, NEAR_AHEAD)) {
            return found(BEYOND);
        }
        for (int deep = LEAST_DEEP; deep <= MOST_DEEP; deep++) {
            trial.become(present);
            trial.deeps[member] = deep;
            trial.passNights(n);
            if (trial.doesKnow(other, trial.verses[member])) {
                return deep;
            }
        }
        return found(NONE);
    }

    public int shift(int n) {
        if (!within(n, 1, NEAR_AHEAD)) {
            return found(BEYOND);
        }
        int seat = present.leastEmptySeat();
        if (present.size == 0 || seat == SEATS) {
            return found(NONE);
        }
        int best = 0;
        int most = -1;
        for (int m = 0; m < present.size; m++) {
            trial.become(present);
            trial.reseat(m, seat);
            trial.passNights(n);
            int many = trial.knownTogether();
            if (many > most) {
                most = many;
                best = m;
            }
        }
        return best;
    }

    public int bears(int member, int n, int v) {
        if (!present.has(member) || !within(n, 0, NEAR_AHEAD) || !within(v, 0, VERSES)) {
            return found(BEYOND);
        }
        for (int tired = MOST_TIRED; tired >= 0; tired--) {
            trial.become(present);
            trial.tired[member] = tired;
            trial.passNights(n);
            if (trial.knownBy(member) >= v) {
                return tired;
            }
        }
        return found(NONE);
    }

    public int wisest(int n) {
        if (!within(n, 0, FAR_AHEAD)) {
            return found(BEYOND);
        }
        if (present.size == 0) {
            return found(NONE);
        }
        trial.become(present);
        trial.passNights(n);
        int best = 0;
        for (int m = 1; m < trial.size; m++) {
            if (trial.knownBy(m) > trial.knownBy(best)) {
                best = m;
            }
        }
        return best;
    }

    // ---- the text

    public int feed(int bytes, int n) {
        if (!within(n, 1, 4)) {
            return found(BEYOND);
        }
        if (tape.length + n > TAPE_BYTES) {
            return found(FULL);
        }
        for (int i = n - 1; i >= 0; i--) {
            tape.append((bytes >>> (8 * i)) & 255);
        }
        return tape.length;
    }

    public int wipe() {
        int had = tape.length;
        tape.length = 0;
        return had;
    }

    public int chapel() {
        trial.become(present);
        int items = tape.parse(trial);
        tape.length = 0;
        if (items >= 0) {
            present.become(trial);
        }
        return items;
    }

    // ---- sheets

    public int sheet(int s, int bits, int n) {
        if (!isSheet(s) || (bits != 0 && bits != 8 && bits != 16 && bits != 64)) {
            return found(BEYOND);
        }
        if (n < 0) {
            return found(SIZE);
        }
        if (n > SHEET_NUMBERS) {
            return found(BEYOND);
        }
        sheets[s].lay(bits, n);
        return sheets[s].size;
    }

    public long write(int s, int i, long v) {
        if (!isSheet(s)) {
            return found(BEYOND);
        }
        Sheet sheet = sheets[s];
        if (sheet.isMissing()) {
            return found(MISSING);
        }
        if (!within(i, 0, sheet.size - 1)) {
            return found(BEYOND);
        }
        long was = sheet.numbers[i];
        sheet.put(i, v);
        return was;
    }

    public int copy(int s, int from, int t, int to, int n) {
        if (!isSheet(s) || !isSheet(t)) {
            return found(BEYOND);
        }
        Sheet source = sheets[s];
        Sheet target = sheets[t];
        if (source.isMissing() || target.isMissing()) {
            return found(MISSING);
        }
        if (source.bits != target.bits) {
            return found(KIND);
        }
        if (!source.hasPart(from, n) || !target.hasPart(to, n)) {
            return found(BEYOND);
        }
        System.arraycopy(source.numbers, from, target.numbers, to, n);
        return n;
    }

    public int lays(int s) {
        if (!isSheet(s)) {
            return found(BEYOND);
        }
        Sheet sheet = sheets[s];
        if (sheet.isMissing()) {
            return found(MISSING);
        }
        int came = 0;
        for (int m = 0; m < present.size && m < sheet.size; m++) {
            long number = sheet.numbers[m];
            if (number >= 0 && number <= ALL_VERSES) {
                present.knows[m] = (int) number;
                came++;
            }
        }
        return came;
    }

    public int book(int s, int member) {
        if (!isSheet(s)) {
            return found(BEYOND);
        }
        Sheet sheet = sheets[s];
        if (sheet.isMissing()) {
            return found(MISSING);
        }
        if (!present.has(member)) {
            return found(BEYOND);
        }
        trial.become(present);
        for (int i = 0; i < sheet.size; i++) {
            sheet.put(i, trial.knows[member]);
            trial.passNight();
        }
        return sheet.size;
    }

    public int read(int s, int member, int other) {
        if (!isSheet(s)) {
            return found(BEYOND);
        }
        Sheet sheet = sheets[s];
        if (sheet.isMissing()) {
            return found(MISSING);
        }
        if (!present.has(member) || !present.has(other) || member == other) {
            return found(BEYOND);
        }
        int pairs = 0;
        for (int kind = 0; kind < Kinds.MANY; kind++) {
            for (int otherKind = 0; otherKind < Kinds.MANY; otherKind++) {
                trial.become(present);
                trial.kinds[member] = kind;
                trial.kinds[other] = otherKind;
                if (trialGoesAs(sheet, member)) {
                    pairs++;
                }
            }
        }
        return pairs;
    }

    private boolean trialGoesAs(Sheet sheet, int member) {
        for (int i = 0; i < sheet.size; i++) {
            if (sheet.numbers[i] != trial.knows[member]) {
                return false;
            }
            trial.passNight();
        }
        return true;
    }

    // ---- images

    public int image() {
        kept.become(present);
        keeps = true;
        return 1;
    }

    public int undo() {
        if (!keeps) {
            return found(NONE);
        }
        present.become(kept);
        return present.size;
    }

    public int tear() {
        int was = keeps ? 1 : 0;
        keeps = false;
        return was;
    }

    public int count(int what) {
        switch (what) {
            case 0:
                return present.size;
            case 1:
                return tape.length;
            case 2:
                return present.sum(present.deeps);
            case 3:
                return SEATS - present.size;
            default:
                return found(BEYOND);
        }
    }

    public int status(int which) {
        if (which == -1) {
            int all = 0;
            for (int k = 0; k < FINDINGS; k++) {
                all += findings[k];
            }
            return all;
        }
        return within(which, 0, FINDINGS - 1) ? findings[which] : found(BEYOND);
    }

    /** Every finding is answered through here, so that status() misses none. */
    private int found(int finding) {
        int which = BEYOND - finding;
        if (within(which, 0, FINDINGS - 1)) {
            findings[which]++;
        }
        return finding;
    }

    private static boolean isSheet(int s) {
        return within(s, 0, SHEETS - 1);
    }

    private static boolean within(int v, int least, int most) {
        return v >= least && v <= most;
    }

    /** What members of each KIND do. */
    private static final class Kinds {
        static final int MEMBER = 0;
        static final int ELDER = 1;
        static final int BOY = 2;
        static final int STRANGER = 3;
        static final int HERETIC = 4;
        static final int CHOIRBOY = 5;
        static final int MANY = 6;
        private static final int[] ABOVE = {-1, MEMBER, MEMBER, MEMBER, ELDER, BOY};

        private static final int LIVELY_BELOW = 10;
        private static final int TOO_TIRED = 60;

        static boolean isKind(int kind) {
            return kind >= 0 && kind < MANY;
        }

        static boolean isUnder(int kind, int above) {
            int k = kind;
            for (int step = 0; step < MANY && isKind(k); step++) {
                if (k == above) {
                    return true;
                }
                k = ABOVE[k];
            }
            return false;
        }

        static int reach(int kind, int tired) {
            switch (kind) {
                case ELDER:
                case HERETIC:
                    return 2;
                case STRANGER:
                    return 0;
                case CHOIRBOY:
                    return tired < LIVELY_BELOW ? 2 : 1;
                default:
                    return 1;
            }
        }

        /** A CHOIRBOY needs no rule of its own: what is DEEP 9, which it always gets, a BOY gets in every NIGHT. */
        static boolean gets(int kind, int tired, int deep, int night) {
            if (tired >= TOO_TIRED) {
                return false;
            }
            switch (kind) {
                case ELDER:
                case HERETIC:
                    return deep >= 3;
                case BOY:
                case CHOIRBOY:
                    return deep + night % 4 >= 7;
                case STRANGER:
                    return true;
                default:
                    return deep >= 5;
            }
        }

        static int tells(int kind, int knows) {
            switch (kind) {
                case ELDER:
                    return least(knows);
                case BOY:
                case CHOIRBOY:
                    return knows & ~greatest(knows);
                case STRANGER:
                    return knows;
                case HERETIC:
                    return Integer.bitCount(knows) >= 4 ? greatest(knows) : least(knows);
                default:
                    return 0;
            }
        }

        static int tires(int kind, boolean reads) {
            int asMember = reads ? 3 : -5;
            switch (kind) {
                case ELDER:
                    return asMember + 2;
                case BOY:
                case CHOIRBOY:
                    return 2 * asMember;
                case STRANGER:
                    return 0;
                case HERETIC:
                    return asMember + 2 + 3;
                default:
                    return asMember;
            }
        }

        private static int least(int verses) {
            return verses & -verses;
        }

        private static int greatest(int verses) {
            for (int verse = VERSES - 1; verse >= 0; verse--) {
                int alone = 1 << verse;
                if ((verses & alone) != 0) {
                    return alone;
                }
            }
            return 0;
        }
    }

    /** All that section 1 of the document tells, but THE TAPE. Members and seats are looked at by who calls. */
    private static final class Chapel {
        int night = 0;
        int size = 0;
        final int[] kinds = new int[MEMBERS];
        final int[] places = new int[MEMBERS];
        final int[] verses = new int[MEMBERS];
        final int[] deeps = new int[MEMBERS];
        final int[] knows = new int[MEMBERS];
        final int[] tired = new int[MEMBERS];
        private final int[] sitters = new int[SEATS];
        /** Found out of all before anybody changes, since all go by what is as a NIGHT begins. */
        private final int[] gains = new int[MEMBERS];
        private final int[] strains = new int[MEMBERS];

        Chapel() {
            Arrays.fill(sitters, NOBODY);
        }

        void become(Chapel other) {
            night = other.night;
            size = other.size;
            System.arraycopy(other.kinds, 0, kinds, 0, MEMBERS);
            System.arraycopy(other.places, 0, places, 0, MEMBERS);
            System.arraycopy(other.verses, 0, verses, 0, MEMBERS);
            System.arraycopy(other.deeps, 0, deeps, 0, MEMBERS);
            System.arraycopy(other.knows, 0, knows, 0, MEMBERS);
            System.arraycopy(other.tired, 0, tired, 0, MEMBERS);
            System.arraycopy(other.sitters, 0, sitters, 0, SEATS);
        }

        boolean has(int member) {
            return member >= 0 && member < size;
        }

        boolean isFull() {
            return size >= MEMBERS;
        }

        /** Beyond the row nobody sits. */
        int sitter(int seat) {
            return within(seat, 0, SEATS - 1) ? sitters[seat] : NOBODY;
        }

        boolean maySit(int member, int seat) {
            int who = sitter(seat);
            return who == NOBODY || who == member;
        }

        int add(int kind, int seat, int verse, int deep) {
            int member = size;
            kinds[member] = kind;
            places[member] = seat;
            verses[member] = verse;
            deeps[member] = deep;
            knows[member] = 0;
            tired[member] = 0;
            sitters[seat] = member;
            size++;
            return member;
        }

        void reseat(int member, int seat) {
            sitters[places[member]] = NOBODY;
            sitters[seat] = member;
            places[member] = seat;
        }

        int leastEmptySeat() {
            int seat = 0;
            while (seat < SEATS && sitters[seat] != NOBODY) {
                seat++;
            }
            return seat;
        }

        int sitterInOrder(int n) {
            int before = 0;
            for (int seat = 0; seat < SEATS; seat++) {
                if (sitters[seat] != NOBODY) {
                    if (before == n) {
                        return sitters[seat];
                    }
                    before++;
                }
            }
            return NOBODY;
        }

        int gaps() {
            int gaps = 0;
            // Those become GAPS only when somebody is found in front of them, too.
            int emptyInFront = 0;
            boolean somebody = false;
            for (int seat = 0; seat < SEATS; seat++) {
                if (sitters[seat] != NOBODY) {
                    gaps = emptyInFront;
                    somebody = true;
                } else if (somebody) {
                    emptyInFront |= 1 << seat;
                }
            }
            return gaps;
        }

        int versesBorne() {
            int borne = 0;
            for (int m = 0; m < size; m++) {
                borne |= 1 << verses[m];
            }
            return borne;
        }

        int versesKnown() {
            int known = 0;
            for (int m = 0; m < size; m++) {
                known |= knows[m];
            }
            return known;
        }

        int knownTogether() {
            int together = 0;
            for (int m = 0; m < size; m++) {
                together += knownBy(m);
            }
            return together;
        }

        int knownBy(int member) {
            return Integer.bitCount(knows[member]);
        }

        boolean doesKnow(int member, int verse) {
            return (knows[member] & (1 << verse)) != 0;
        }

        boolean isSpread(int verse) {
            for (int m = 0; m < size; m++) {
                boolean counts = kinds[m] != Kinds.STRANGER && verses[m] != verse;
                if (counts && !doesKnow(m, verse)) {
                    return false;
                }
            }
            return true;
        }

        boolean isHeretical() {
            for (int m = 0; m < size; m++) {
                if (doesKnow(m, verses[m])) {
                    return true;
                }
            }
            return false;
        }

        int sum(int[] row) {
            int sum = 0;
            for (int m = 0; m < size && m < row.length; m++) {
                sum += row[m];
            }
            return sum;
        }

        int felt(int member) {
            int reach = Kinds.reach(kinds[member], tired[member]);
            for (int far = 1; far <= reach; far++) {
                int who = sitter(places[member] + far);
                if (who != NOBODY) {
                    return who;
                }
            }
            return NOBODY;
        }

        boolean getsFrom(int member, int who) {
            return who != NOBODY && Kinds.gets(kinds[member], tired[member], deeps[who], night);
        }

        int told(int member) {
            return Kinds.tells(kinds[member], knows[member]);
        }

        void passNights(int n) {
            for (int i = 0; i < n; i++) {
                passNight();
            }
        }

        void passNight() {
            for (int m = 0; m < size; m++) {
                findOut(m);
            }
            for (int m = 0; m < size; m++) {
                knows[m] |= gains[m];
                tired[m] = Math.max(0, Math.min(MOST_TIRED, tired[m] + strains[m]));
            }
            night++;
        }

        private void findOut(int member) {
            int who = felt(member);
            boolean reads = getsFrom(member, who);
            int gain = reads ? 1 << verses[who] : 0;
            int front = sitter(places[member] + 1);
            if (front != NOBODY) {
                gain |= told(front);
            }
            if (kinds[member] != Kinds.HERETIC) {
                gain &= ~(1 << verses[member]);
            }
            gains[member] = gain;
            strains[member] = Kinds.tires(kinds[member], reads);
        }
    }

    private static final class Sheet {
        /** 0: MISSING. */
        int bits = 0;
        int size = 0;
        final long[] numbers = new long[SHEET_NUMBERS];

        boolean isMissing() {
            return bits == 0;
        }

        void lay(int newBits, int n) {
            bits = newBits;
            size = newBits == 0 ? 0 : n;
            Arrays.fill(numbers, 0L);
        }

        /** Numbers of 8 and 16 bits have a sign, as those of 64 do. */
        void put(int i, long v) {
            if (bits == 8) {
                numbers[i] = (byte) v;
            } else if (bits == 16) {
                numbers[i] = (short) v;
            } else {
                numbers[i] = v;
            }
        }

        /** Asked by a difference: a sum of two great numbers would wrap around. */
        boolean hasPart(int from, int n) {
            return from >= 0 && n >= 0 && n <= size && from <= size - n;
        }
    }

    /**
     * THE TAPE, and THE TEXT of a CHAPEL read from it. Reading stops at the TOKEN that can't stand where it is, so that
     * the token at hand is always the one that a FAULT tells of.
     */
    private static final class Tape {
        private static final int END = 0;
        private static final int WORD = 1;
        private static final int NUMBER = 2;
        private static final int SIGN = 3;
        private static final int NO_TOKEN = 4;

        private static final int MOST_NUMBER = 999;

        /** Words that are no KIND's name go on behind the KINDS. */
        private static final int KNOWS = Kinds.MANY;
        private static final int MOVE = Kinds.MANY + 1;
        private static final int DEEP = Kinds.MANY + 2;
        private static final int WORDS = Kinds.MANY + 3;
        private static final int OTHER_WORD = -1;

        int length = 0;
        private final int[] bytes = new int[TAPE_BYTES];

        private int start = 0;
        private int end = 0;
        private int token = END;
        /** Of a NUMBER its value, of a WORD which one it is. */
        private int value = 0;

        void append(int one) {
            if (length < TAPE_BYTES) {
                bytes[length] = one;
                length++;
            }
        }

        /** How many ITEMS came to the chapel, or -1 less the place of the FAULT. */
        int parse(Chapel chapel) {
            end = 0;
            advance();
            // An item has more than one byte, so the tape's bytes are bound enough.
            for (int items = 1; items <= TAPE_BYTES; items++) {
                if (!takesItem(chapel)) {
                    return -1 - start;
                }
                if (token == END) {
                    return items;
                }
                if (token != SIGN) {
                    return -1 - start;
                }
                advance();
            }
            return -1 - start;
        }

        private boolean takesItem(Chapel chapel) {
            if (token != WORD) {
                return false;
            }
            if (value == KNOWS) {
                return takesKnows(chapel);
            }
            if (value == MOVE) {
                return takesMove(chapel);
            }
            return Kinds.isKind(value) && takesMember(chapel);
        }

        private boolean takesMember(Chapel chapel) {
            if (chapel.isFull()) {
                return false;
            }
            int kind = value;
            advance();
            if (!atEmptySeat(chapel)) {
                return false;
            }
            int seat = value;
            advance();
            if (!atNumber(0, VERSES - 1)) {
                return false;
            }
            int verse = value;
            advance();
            int deep = FIRST_DEEP;
            if (token == WORD && value == DEEP) {
                advance();
                if (!atNumber(LEAST_DEEP, MOST_DEEP)) {
                    return false;
                }
                deep = value;
                advance();
            }
            chapel.add(kind, seat, verse, deep);
            return true;
        }

        private boolean takesKnows(Chapel chapel) {
            advance();
            if (!atNumber(0, chapel.size - 1)) {
                return false;
            }
            int member = value;
            advance();
            if (!atNumber(0, VERSES - 1)) {
                return false;
            }
            chapel.knows[member] |= 1 << value;
            advance();
            return true;
        }

        private boolean takesMove(Chapel chapel) {
            advance();
            if (!atNumber(0, chapel.size - 1)) {
                return false;
            }
            int member = value;
            advance();
            if (!atEmptySeat(chapel)) {
                return false;
            }
            chapel.reseat(member, value);
            advance();
            return true;
        }

        private boolean atEmptySeat(Chapel chapel) {
            return atNumber(0, SEATS - 1) && chapel.sitter(value) == NOBODY;
        }

        private boolean atNumber(int least, int most) {
            return token == NUMBER && within(value, least, most);
        }

        private void advance() {
            start = end;
            while (start < length && bytes[start] == ' ') {
                start++;
            }
            end = start;
            if (start >= length) {
                token = END;
            } else if (isLetter(bytes[start])) {
                takeWord();
            } else if (isDigit(bytes[start])) {
                takeNumber();
            } else {
                token = bytes[start] == ';' ? SIGN : NO_TOKEN;
                end++;
            }
        }

        private void takeWord() {
            token = WORD;
            while (end < length && isLetter(bytes[end])) {
                end++;
            }
            value = OTHER_WORD;
            for (int word = 0; word < WORDS; word++) {
                if (isWord(spelling(word))) {
                    value = word;
                }
            }
        }

        private void takeNumber() {
            token = NUMBER;
            value = 0;
            while (end < length && isDigit(bytes[end])) {
                // Held just above the greatest, where no NUMBER may be, lest many digits wrap around.
                value = Math.min(MOST_NUMBER + 1, 10 * value + bytes[end] - '0');
                end++;
            }
        }

        private boolean isWord(String word) {
            if (word.length() != end - start) {
                return false;
            }
            for (int i = 0; i < word.length(); i++) {
                if (bytes[start + i] != word.charAt(i)) {
                    return false;
                }
            }
            return true;
        }

        private static String spelling(int word) {
            switch (word) {
                case Kinds.MEMBER:
                    return "member";
                case Kinds.ELDER:
                    return "elder";
                case Kinds.BOY:
                    return "boy";
                case Kinds.STRANGER:
                    return "stranger";
                case Kinds.HERETIC:
                    return "heretic";
                case Kinds.CHOIRBOY:
                    return "choirboy";
                case KNOWS:
                    return "knows";
                case MOVE:
                    return "move";
                default:
                    return "deep";
            }
        }

        private static boolean isLetter(int one) {
            return one >= 'a' && one <= 'z';
        }

        private static boolean isDigit(int one) {
            return one >= '0' && one <= '9';
        }
    }
}
