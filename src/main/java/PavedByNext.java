/** Streets that wear, each mended by whoever lives in another one; README.md tells more. */
public final class PavedByNext {
    private static final int STREETS_MOST = 6;
    private static final int MUD_MOST = 9;
    private static final int WEAR_MOST = 3;
    private static final int HANDS_MOST = 4;
    private static final int PENCE_MOST = 99;
    private static final int PENCE_AT_FIRST = 9;
    private static final int LETTER_MOST = 255;
    private static final int LETTERS_MOST = 64;
    private static final int YEAR_MOST = 999;

    private static final int DWELLER = 0;
    private static final int LAZY = 1;
    private static final int TRUST = 2;
    private static final int WIDOW = 3;
    private static final int MAYOR = 4;
    private static final int CAREFUL = 5;
    private static final int KINDS = 6;
    private static final String KIND_LETTERS = "dltwmc";
    private static final int MUD_OF_CARE = 6;

    private static final int YEARS_FAR = 60;
    private static final int YEARS_NEAR = 30;
    private static final int YEARS_AHEAD_OF_AGAIN = 40;
    private static final int YEARS_TO_FEEL = 40;
    private static final int MAPS_MOST = 720;
    private static final int MORE_THAN_ALL_MUD = STREETS_MOST * MUD_MOST + 1;
    private static final int ALL_BUT_SIGN = 0x7fffffff;

    private static final int ALL = -1;
    private static final int NONE = -1;
    private static final int NOTHING = -9;
    private static final int FORM_FAULT = -1000;
    private static final int SENSE_FAULT = -2000;
    private static final int WORTH_REFUSED = 1000000000;

    private static final int FITS = 0;
    private static final int NOBODY = -1;
    private static final int OTHER = -2;
    private static final int STATE = -3;
    private static final int BELOW = -4;
    private static final int ROOM = -6;
    private static final int REFUSALS_MOST = 6;
    private static final int REFUSALS_COUNTED_FROM = 10;

    private final Town now = new Town();
    private final Town kept = new Town();
    private final Town trial = new Town();
    private final Town rival = new Town();
    private final Text text = new Text();
    private final int[] map = new int[STREETS_MOST];
    private final int[] bestOfMaps = new int[STREETS_MOST];
    private final int[] told = new int[STREETS_MOST];
    private final int[] refused = new int[REFUSALS_MOST + 1];
    private int toldLength;
    private boolean imageTaken;

    public PavedByNext() {
    }

    public int letter(int c) {
        int refusal = refusalOf(true, c, 0, LETTER_MOST);
        if (refusal == FITS && text.isFull()) {
            refusal = ROOM;
        }
        if (refusal != FITS) {
            return refuse(refusal);
        }
        text.append((char) c);
        return text.length;
    }

    public int town() {
        int answer = readTown();
        text.length = 0;
        return answer;
    }

    public int street(int street, int what) {
        if (!now.isStreet(street)) {
            return refuse(NOBODY);
        }
        switch (what) {
            case 0: return now.kind[street];
            case 1: return now.mud[street];
            case 2: return now.wear[street];
            case 3: return now.hands[street];
            case 4: return now.pence[street];
            case 5: return now.mends[street];
            case 6: return now.mended[street];
            case 7: return now.fed(street);
            default: return refuse(OTHER);
        }
    }

    public int mends(int street, int other) {
        if (!now.isStreet(street) || !now.isStreet(other)) {
            return refuse(NOBODY);
        }
        int before = now.mends[street];
        now.mends[street] = other;
        return before;
    }

    public int pence(int street, int v) {
        int refusal = refusalOf(now.isStreet(street), v, 0, PENCE_MOST);
        if (refusal != FITS) {
            return refuse(refusal);
        }
        int before = now.pence[street];
        now.pence[street] = v;
        return before;
    }

    public int hands(int street, int v) {
        int refusal = refusalOf(now.isStreet(street), v, 0, HANDS_MOST);
        if (refusal != FITS) {
            return refuse(refusal);
        }
        int before = now.hands[street];
        now.hands[street] = v;
        return before;
    }

    public int year() {
        if (now.year >= YEAR_MOST) {
            return refuse(ROOM);
        }
        now.passYear();
        return now.mudOfAll();
    }

    public int mud(int street, int n) {
        int refusal = refusalOf(street == ALL || now.isStreet(street), n, 0, YEARS_FAR);
        if (refusal != FITS) {
            return refuse(refusal);
        }
        trial.copyFrom(now);
        int all = trial.mudBehind(n);
        return now.isStreet(street) ? trial.mud[street] : all;
    }

    public int worst(int n, int what) {
        int refusal = refusalOf(true, n, 0, YEARS_FAR);
        if (refusal == FITS && what != 0 && what != 1) {
            refusal = OTHER;
        }
        if (refusal != FITS) {
            return refuse(refusal);
        }
        trial.copyFrom(now);
        trial.mudBehind(n);
        int street = trial.muddiest();
        if (what == 1) {
            return street == NONE ? NOTHING : street;
        }
        return trial.isStreet(street) ? trial.mud[street] : 0;
    }

    public int again() {
        trial.copyFrom(now);
        trial.mudBehind(YEARS_AHEAD_OF_AGAIN);
        rival.copyFrom(trial);
        for (int n = 1; n <= YEARS_NEAR; n++) {
            rival.passYear();
            if (rival.liesLike(trial)) {
                return n;
            }
        }
        return NOTHING;
    }

    public int way(int one, int other) {
        if (!now.isStreet(one) || !now.isStreet(other)) {
            return refuse(NOBODY);
        }
        int at = one;
        for (int steps = 0; steps < now.count; steps++) {
            if (at == other) {
                return steps;
            }
            at = now.stepFrom(at);
        }
        return NOTHING;
    }

    public int ring() {
        int bits = 0;
        for (int street = 0; street < now.count; street++) {
            if (now.isOnRing(street)) {
                bits |= 1 << street;
            }
        }
        return bits;
    }

    public int tail(int street) {
        if (!now.isStreet(street)) {
            return refuse(NOBODY);
        }
        int at = street;
        int steps = 0;
        while (steps < now.count && !now.isOnRing(at)) {
            at = now.stepFrom(at);
            steps++;
        }
        return steps;
    }

    public int rings() {
        int found = 0;
        for (int street = 0; street < now.count; street++) {
            if (now.isOnRing(street) && now.leastOnTheWayFrom(street) == street) {
                found++;
            }
        }
        return found;
    }

    public int never() {
        int bits = 0;
        for (int street = 0; street < now.count; street++) {
            if (now.fed(street) == 0) {
                bits |= 1 << street;
            }
        }
        return bits;
    }

    public int felt(int lazed, int other) {
        if (!now.isStreet(lazed) || !now.isStreet(other)) {
            return refuse(NOBODY);
        }
        rival.copyFrom(now);
        trial.copyFrom(now);
        trial.lazed = lazed;
        for (int n = 1; n <= YEARS_TO_FEEL; n++) {
            rival.passYear();
            trial.passYear();
            if (trial.mud[other] != rival.mud[other]) {
                return n;
            }
        }
        return NOTHING;
    }

    public int worth(int lazed, int n) {
        int refusal = refusalOf(now.isStreet(lazed), n, 0, YEARS_FAR);
        if (refusal != FITS) {
            return WORTH_REFUSED - refuse(refusal);
        }
        rival.copyFrom(now);
        trial.copyFrom(now);
        trial.lazed = lazed;
        return trial.mudBehind(n) - rival.mudBehind(n);
    }

    public int bestMap(int n, int street) {
        int refusal = refusalOf(street == ALL || now.isStreet(street), n, 1, YEARS_NEAR);
        if (refusal != FITS) {
            return refuse(refusal);
        }
        int least = findBestMap(n);
        return now.isStreet(street) ? bestOfMaps[street] : least;
    }

    public int change(int n) {
        int refusal = refusalOf(true, n, 1, YEARS_NEAR);
        if (refusal != FITS) {
            return refuse(refusal);
        }
        trial.copyFrom(now);
        int least = trial.mudBehind(n);
        int found = NOTHING;
        for (int one = 0; one < now.count; one++) {
            for (int other = 0; other < now.count; other++) {
                trial.copyFrom(now);
                trial.mends[one] = other;
                int mud = trial.mudBehind(n);
                if (mud < least) {
                    least = mud;
                    found = 10 * one + other;
                }
            }
        }
        return found;
    }

    public int cure(int street, int n) {
        int refusal = refusalOf(now.isStreet(street), n, 1, YEARS_NEAR);
        if (refusal != FITS) {
            return refuse(refusal);
        }
        int least = MORE_THAN_ALL_MUD;
        int found = DWELLER;
        for (int kind = 0; kind < KINDS; kind++) {
            trial.copyFrom(now);
            trial.kind[street] = kind;
            int mud = trial.mudBehind(n);
            if (mud < least) {
                least = mud;
                found = kind;
            }
        }
        return found;
    }

    public int putIn(int street, int hands, int n) {
        if (!now.isStreet(street)) {
            return refuse(NOBODY);
        }
        if (hands < 0 || n < 1) {
            return refuse(BELOW);
        }
        if (hands > HANDS_MOST || n > YEARS_NEAR || now.isFull()) {
            return refuse(ROOM);
        }
        trial.copyFrom(now);
        trial.putBehind(street, hands);
        // The new street neither has MUD nor wears, so MUD of all is that of those there are now.
        return trial.mudBehind(n);
    }

    public int takeOut(int street, int n) {
        int refusal = refusalOf(now.isStreet(street), n, 1, YEARS_NEAR);
        if (refusal != FITS) {
            return refuse(refusal);
        }
        trial.copyFrom(now);
        trial.leave(street);
        int all = trial.mudBehind(n);
        return all - trial.mudOf(street);
    }

    public int row(int v) {
        int refusal = refusalOf(true, v, 0, MUD_MOST);
        if (refusal == FITS && toldLength >= told.length) {
            refusal = ROOM;
        }
        if (refusal != FITS) {
            return refuse(refusal);
        }
        told[toldLength] = v;
        toldLength++;
        return toldLength;
    }

    public int fitting(int street, int n) {
        int refusal = refusalOf(now.isStreet(street), n, 1, YEARS_NEAR);
        if (refusal == FITS && toldLength != now.count) {
            refusal = STATE;
        }
        if (refusal != FITS) {
            return refuse(refusal);
        }
        int bits = 0;
        for (int kind = 0; kind < KINDS; kind++) {
            trial.copyFrom(now);
            trial.kind[street] = kind;
            trial.mudBehind(n);
            if (firstNotAsTold(trial) == NOTHING) {
                bits |= 1 << kind;
            }
        }
        return bits;
    }

    public int judge() {
        int answer = firstNotAsTold(now);
        toldLength = 0;
        return answer;
    }

    public int seeds(int n, int z) {
        int refusal = refusalOf(true, n, 1, YEARS_NEAR);
        if (refusal != FITS) {
            return refuse(refusal);
        }
        trial.copyFrom(now);
        int seed = z;
        for (int past = 0; past < n; past++) {
            for (int street = 0; street < trial.count; street++) {
                seed = seed * 1664525 + 1013904223;
                trial.wear[street] = (seed & ALL_BUT_SIGN) / 256 % (WEAR_MOST + 1);
            }
            trial.passYear();
        }
        return trial.mudOfAll();
    }

    public int image() {
        kept.copyFrom(now);
        imageTaken = true;
        return kept.year;
    }

    public int on() {
        if (!imageTaken) {
            return refuse(STATE);
        }
        now.copyFrom(kept);
        return now.year;
    }

    public int count(int what) {
        int refusal = what - REFUSALS_COUNTED_FROM;
        if (refusal >= 1 && refusal <= REFUSALS_MOST) {
            return refused[refusal];
        }
        switch (what) {
            case 0: return now.count;
            case 1: return now.year;
            case 2: return now.mudOfAll();
            case 3: return now.penceOfAll();
            case 4: return toldLength;
            case 5: return text.length;
            default: return NOTHING;
        }
    }

    private int refuse(int refusal) {
        int which = -refusal;
        if (which >= 1 && which <= REFUSALS_MOST) {
            refused[which]++;
        }
        return refusal;
    }

    private static int refusalOf(boolean somebody, int v, int least, int most) {
        if (!somebody) {
            return NOBODY;
        }
        if (v < least) {
            return BELOW;
        }
        return v > most ? ROOM : FITS;
    }

    /** All statements are tried on a copy, for with a fault none of them comes. */
    private int readTown() {
        int fault = text.formFault();
        if (fault != NONE) {
            return FORM_FAULT - fault;
        }
        trial.copyFrom(now);
        int statements = 0;
        int start = 0;
        for (int place = 0; place < text.length; place++) {
            if (text.at(place) == ';') {
                if (!comesToTrial(start)) {
                    return SENSE_FAULT - start;
                }
                statements++;
                start = place + 1;
            }
        }
        now.copyFrom(trial);
        return statements;
    }

    private boolean comesToTrial(int start) {
        switch (text.at(start)) {
            case 's':
                int kind = KIND_LETTERS.indexOf(text.at(start + 1));
                return trial.tell(kind, text.digit(start + 2), text.digit(start + 3), text.digit(start + 4));
            case 'm':
                return trial.tellWhoMends(text.digit(start + 1), text.digit(start + 2));
            default:
                return trial.tellPence(text.digit(start + 1), text.oneOrTwoDigits(start + 3));
        }
    }

    private int firstNotAsTold(Town town) {
        int both = Math.min(toldLength, town.count);
        for (int street = 0; street < both; street++) {
            if (told[street] != town.mud[street]) {
                return street;
            }
        }
        return toldLength == town.count ? NOTHING : both;
    }

    private int findBestMap(int n) {
        for (int street = 0; street < now.count; street++) {
            map[street] = street;
        }
        int least = MORE_THAN_ALL_MUD;
        boolean more = true;
        for (int maps = 0; maps < MAPS_MOST && more; maps++) {
            trial.copyFrom(now);
            System.arraycopy(map, 0, trial.mends, 0, STREETS_MOST);
            int mud = trial.mudBehind(n);
            if (mud < least) {
                least = mud;
                System.arraycopy(map, 0, bestOfMaps, 0, STREETS_MOST);
            }
            more = goToNextMap(now.count);
        }
        return least;
    }

    /** The next order of the first streets of the map as words go in a dictionary; false behind the last. */
    private boolean goToNextMap(int length) {
        int turn = length - 2;
        while (turn >= 0 && map[turn] > map[turn + 1]) {
            turn--;
        }
        if (turn < 0) {
            return false;
        }
        int greater = length - 1;
        while (greater > turn && map[greater] < map[turn]) {
            greater--;
        }
        swapInMap(turn, greater);
        int low = turn + 1;
        int high = length - 1;
        while (low < high) {
            swapInMap(low, high);
            low++;
            high--;
        }
        return true;
    }

    private void swapInMap(int one, int other) {
        int moved = map[one];
        map[one] = map[other];
        map[other] = moved;
    }

    /** All that is told of the streets, and how they lie: what goes on, or what is in mind only. */
    private static final class Town {
        private final int[] kind = new int[STREETS_MOST];
        private final int[] mud = new int[STREETS_MOST];
        private final int[] wear = new int[STREETS_MOST];
        private final int[] hands = new int[STREETS_MOST];
        private final int[] pence = new int[STREETS_MOST];
        private final int[] mends = new int[STREETS_MOST];
        private final int[] mended = new int[STREETS_MOST];
        private final int[] work = new int[STREETS_MOST];
        private int count;
        private int year;
        private int lazed = NONE;
        private int left = NONE;

        void copyFrom(Town from) {
            System.arraycopy(from.kind, 0, kind, 0, STREETS_MOST);
            System.arraycopy(from.mud, 0, mud, 0, STREETS_MOST);
            System.arraycopy(from.wear, 0, wear, 0, STREETS_MOST);
            System.arraycopy(from.hands, 0, hands, 0, STREETS_MOST);
            System.arraycopy(from.pence, 0, pence, 0, STREETS_MOST);
            System.arraycopy(from.mends, 0, mends, 0, STREETS_MOST);
            System.arraycopy(from.mended, 0, mended, 0, STREETS_MOST);
            count = from.count;
            year = from.year;
            lazed = from.lazed;
            left = from.left;
        }

        boolean isStreet(int street) {
            return street >= 0 && street < count;
        }

        boolean isFull() {
            return count >= STREETS_MOST;
        }

        boolean tell(int toldKind, int toldMud, int toldWear, int toldHands) {
            if (isFull() || toldWear > WEAR_MOST || toldHands > HANDS_MOST) {
                return false;
            }
            int last = count - 1;
            if (isStreet(last) && mends[last] == 0) {
                mends[last] = count;
            }
            add(toldKind, toldMud, toldWear, toldHands);
            return true;
        }

        private void add(int newKind, int newMud, int newWear, int newHands) {
            if (isFull()) {
                return;
            }
            kind[count] = newKind;
            mud[count] = newMud;
            wear[count] = newWear;
            hands[count] = newHands;
            pence[count] = PENCE_AT_FIRST;
            mends[count] = 0;
            mended[count] = 0;
            count++;
        }

        boolean tellWhoMends(int street, int other) {
            if (!isStreet(street) || !isStreet(other)) {
                return false;
            }
            mends[street] = other;
            return true;
        }

        boolean tellPence(int street, int v) {
            if (!isStreet(street)) {
                return false;
            }
            pence[street] = v;
            return true;
        }

        void putBehind(int street, int newHands) {
            if (isFull() || !isStreet(street)) {
                return;
            }
            int newest = count;
            add(DWELLER, 0, 0, newHands);
            pence[newest] = 0;
            mends[newest] = mends[street];
            mends[street] = newest;
        }

        void leave(int street) {
            left = street;
            for (int other = 0; other < count; other++) {
                if (mends[other] == street) {
                    mends[other] = stepFrom(street);
                }
            }
        }

        int mudBehind(int n) {
            for (int past = 0; past < n; past++) {
                passYear();
            }
            return mudOfAll();
        }

        void passYear() {
            for (int street = 0; street < count; street++) {
                mud[street] = Math.min(MUD_MOST, mud[street] + wear[street]);
                work[street] = 0;
            }
            for (int street = 0; street < count; street++) {
                int there = mends[street];
                if (isStreet(there)) {
                    work[there] += workOf(street, mud[there]);
                }
            }
            for (int street = 0; street < count; street++) {
                mended[street] = work[street];
                mud[street] = Math.max(0, mud[street] - work[street]);
            }
            payAll();
            year++;
        }

        private int workOf(int street, int mudThere) {
            if (street == lazed || street == left) {
                return 0;
            }
            int own = hands[street];
            switch (kind[street]) {
                case LAZY: return year % 2 == 0 ? own : 0;
                case TRUST: return trustOf(street);
                case WIDOW: return pence[street] > 0 ? own + 1 : 0;
                case MAYOR: return 2 * own;
                case CAREFUL: return mudThere >= MUD_OF_CARE ? own : trustOf(street);
                default: return own;
            }
        }

        private int trustOf(int street) {
            return Math.min(hands[street], mended[street] + 1);
        }

        /** Who pays is known ahead of the first payment: what comes in this year is not given on. */
        private void payAll() {
            int payers = 0;
            for (int street = 0; street < count; street++) {
                if (kind[street] == WIDOW && pence[street] > 0 && street != left) {
                    payers |= 1 << street;
                }
            }
            for (int street = 0; street < count; street++) {
                if ((payers >> street & 1) == 1) {
                    pay(street);
                }
            }
        }

        private void pay(int street) {
            for (int other = 0; other < count; other++) {
                if (mends[other] == street && other != left) {
                    pence[street]--;
                    pence[other] = Math.min(PENCE_MOST, pence[other] + 1);
                    return;
                }
            }
        }

        int mudOf(int street) {
            return isStreet(street) ? mud[street] : 0;
        }

        int mudOfAll() {
            int all = 0;
            for (int street = 0; street < count; street++) {
                all += mud[street];
            }
            return all;
        }

        int penceOfAll() {
            int all = 0;
            for (int street = 0; street < count; street++) {
                all += pence[street];
            }
            return all;
        }

        int muddiest() {
            int found = NONE;
            for (int street = 0; street < count; street++) {
                if (found == NONE || mud[street] > mudOf(found)) {
                    found = street;
                }
            }
            return found;
        }

        boolean liesLike(Town town) {
            for (int street = 0; street < count; street++) {
                if (mud[street] != town.mud[street] || mended[street] != town.mended[street]) {
                    return false;
                }
            }
            return true;
        }

        int fed(int street) {
            int feeding = 0;
            for (int other = 0; other < count; other++) {
                if (mends[other] == street) {
                    feeding++;
                }
            }
            return feeding;
        }

        int stepFrom(int street) {
            return isStreet(street) ? mends[street] : NONE;
        }

        boolean isOnRing(int street) {
            int at = street;
            for (int steps = 0; steps < count; steps++) {
                at = stepFrom(at);
                if (at == street) {
                    return true;
                }
            }
            return false;
        }

        int leastOnTheWayFrom(int street) {
            int least = street;
            int at = street;
            for (int steps = 0; steps < count; steps++) {
                at = stepFrom(at);
                least = Math.min(least, at);
            }
            return least;
        }
    }

    /** The letters of a town that are told so far. */
    private static final class Text {
        private static final int STATEMENT = 0;
        private static final int KIND = 1;
        private static final int THREE_DIGITS = 2;
        private static final int TWO_DIGITS = 3;
        private static final int ONE_DIGIT = 4;
        private static final int END = 5;
        private static final int PAID_STREET = 6;
        private static final int COMMA = 7;
        private static final int PENCE = 8;
        private static final int MORE_PENCE = 9;

        private final char[] letters = new char[LETTERS_MOST];
        private int length;

        boolean isFull() {
            return length >= letters.length;
        }

        void append(char c) {
            if (!isFull()) {
                letters[length] = c;
                length++;
            }
        }

        char at(int place) {
            return place >= 0 && place < length && place < letters.length ? letters[place] : 0;
        }

        int digit(int place) {
            return isDigit(at(place)) ? at(place) - '0' : 0;
        }

        int oneOrTwoDigits(int place) {
            int first = digit(place);
            return isDigit(at(place + 1)) ? 10 * first + digit(place + 1) : first;
        }

        /** The place of the letter by which the text is no town, its end if it lacks something, else NONE. */
        int formFault() {
            int due = STATEMENT;
            for (int place = 0; place < length; place++) {
                due = dueBehind(due, at(place));
                if (due == NONE) {
                    return place;
                }
            }
            return due == STATEMENT && length > 0 ? NONE : length;
        }

        /** What is due next once a letter has come where something was due; NONE if that letter was not. */
        private static int dueBehind(int due, char c) {
            switch (due) {
                case STATEMENT: return dueInStatement(c);
                case KIND: return KIND_LETTERS.indexOf(c) >= 0 ? THREE_DIGITS : NONE;
                case THREE_DIGITS: return isDigit(c) ? TWO_DIGITS : NONE;
                case TWO_DIGITS: return isDigit(c) ? ONE_DIGIT : NONE;
                case ONE_DIGIT: return isDigit(c) ? END : NONE;
                case PAID_STREET: return isDigit(c) ? COMMA : NONE;
                case COMMA: return c == ',' ? PENCE : NONE;
                case PENCE: return isDigit(c) ? MORE_PENCE : NONE;
                case MORE_PENCE: return isDigit(c) ? END : dueAtEnd(c);
                default: return dueAtEnd(c);
            }
        }

        private static int dueAtEnd(char c) {
            return c == ';' ? STATEMENT : NONE;
        }

        private static int dueInStatement(char c) {
            switch (c) {
                case 's': return KIND;
                case 'm': return TWO_DIGITS;
                case 'p': return PAID_STREET;
                default: return NONE;
            }
        }

        private static boolean isDigit(char c) {
            return c >= '0' && c <= '9';
        }
    }
}
