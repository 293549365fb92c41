import java.util.ArrayList;
import java.util.Arrays;
import java.util.List;

/**
 * Every call with numbers at and around each edge, in the empty town, the full one and some between: it is refused as
 * the document tells, by the first refusal that fits, and nothing changes but how many there were; a call in mind that
 * is not refused changes nothing at all.
 */
public final class RefusalTests {
    private static final int[] EDGES = {Integer.MIN_VALUE, Integer.MIN_VALUE + 1, -1000, -2, -1, 0, 1, 2, 4, 5, 6, 7, 8,
        9, 10, 29, 30, 31, 32, 59, 60, 61, 64, 98, 99, 100, 101, 254, 255, 256, 257, 1 << 16, Integer.MAX_VALUE};
    private static final int[] ANY = {0};
    /** As many as leave room for all that is looked at before and after within 512 calls. */
    private static final int CALLS_OF_ONE_OBJECT = 100;

    private static final int[] met = new int[7];
    private static int wrong = 0;

    public static void main(String[] args) {
        for (Case one : cases()) {
            for (Call call : Call.values()) {
                everyCall(one, call);
            }
        }
        everyRefusalIsMet();
        System.out.println(wrong == 0 ? "every call is refused as told" : wrong + " answers are not as due");
        if (wrong != 0) {
            System.exit(1);
        }
    }

    private static Case[] cases() {
        String streets = "sd911;sl802;st713;sw624;sm531;sc422;";
        String mends = "m01;m12;m23;m34;m45;m51;m00;";
        String pence = "p0,12;p0,13;p0,14;p0,15;p0,16;p0,17;p0,18;p0,19;p0,20;p1,99;";
        return new Case[] {
            new Case(0, 0, "", false),
            new Case(0, 6, streets + mends, true),
            new Case(1, 1, "p0,42;", false),
            new Case(1, 2, "", true),
            new Case(2, 1, "m00;", true),
            new Case(5, 5, "sd934;", true),
            new Case(6, 6, pence + "m44;", true),
            new Case(6, 0, "", false),
        };
    }

    private static void everyRefusalIsMet() {
        for (int refusal : new int[] {1, 2, 3, 4, 6}) {
            due("refusals -" + refusal + " were met", met[refusal] > 0 ? 1 : 0, 1);
        }
    }

    private static void due(String what, int got, int want) {
        if (got != want) {
            wrong++;
            System.out.println(what + " answered " + got + ", due is " + want);
        }
    }

    /** A call with its numbers. */
    private static final class Asked {
        final Call call;
        final int a;
        final int b;
        final int c;

        Asked(Call call, int a, int b, int c) {
            this.call = call;
            this.a = a;
            this.b = b;
            this.c = c;
        }

        @Override
        public String toString() {
            return call.name() + Arrays.toString(Arrays.copyOf(new int[] {a, b, c}, call.numbers));
        }
    }

    private static void everyCall(Case one, Call call) {
        List<Asked> refused = new ArrayList<>();
        List<Asked> inMind = new ArrayList<>();
        for (int a : call.numbers > 0 ? EDGES : ANY) {
            for (int b : call.numbers > 1 ? EDGES : ANY) {
                for (int c : call.numbers > 2 ? EDGES : ANY) {
                    Asked asked = new Asked(call, a, b, c);
                    if (one.refusal(asked) != 0) {
                        refused.add(asked);
                    } else if (call.changes) {
                        takenWithoutRefusal(one, asked);
                    } else {
                        inMind.add(asked);
                    }
                }
            }
        }
        byManyObjects(one, refused);
        byManyObjects(one, inMind);
    }

    private static void byManyObjects(Case one, List<Asked> all) {
        for (int from = 0; from < all.size(); from += CALLS_OF_ONE_OBJECT) {
            changeNothing(one, all.subList(from, Math.min(all.size(), from + CALLS_OF_ONE_OBJECT)));
        }
    }

    private static void changeNothing(Case one, List<Asked> some) {
        PavedByNext x = one.make();
        int[] refusals = new int[7];
        for (Asked asked : some) {
            int refusal = one.refusal(asked);
            int answer = asked.call.on(x, asked.a, asked.b, asked.c);
            if (refusal != 0) {
                due(one + " " + asked, answer, asked.call == Call.WORTH ? 1000000000 - refusal : refusal);
                refusals[-refusal]++;
                met[-refusal]++;
            }
        }
        String name = one + " " + some.get(0) + " .. " + some.get(some.size() - 1);
        for (int which = 1; which <= 6; which++) {
            due(name + " count(" + (10 + which) + ")", x.count(10 + which), refusals[which]);
        }
        String is = all(x, one);
        if (!is.equals(one.all)) {
            wrong++;
            System.out.println(name + " changed\n" + one.all + "\nto\n" + is);
        }
    }

    private static void takenWithoutRefusal(Case one, Asked asked) {
        PavedByNext x = one.make();
        asked.call.on(x, asked.a, asked.b, asked.c);
        for (int what = 11; what <= 16; what++) {
            due(one + " " + asked + " count(" + what + ")", x.count(what), 0);
        }
    }

    /** All that can be seen of an object, the letters, the ROW and the image too, for which it is used up. */
    private static String all(PavedByNext x, Case one) {
        StringBuilder text = new StringBuilder(seen(x));
        text.append("letters ").append(x.town()).append(": ").append(seen(x));
        for (int street = x.count(0); street < one.row; street++) {
            tell(x, "sd" + one.number(street) + "00;");
        }
        text.append("judge ").append(x.judge()).append(", on ").append(x.on()).append(": ").append(seen(x));
        return text.toString();
    }

    private static String seen(PavedByNext x) {
        StringBuilder text = new StringBuilder();
        for (int what = 0; what <= 5; what++) {
            text.append(x.count(what)).append(' ');
        }
        for (int street = 0; street < x.count(0); street++) {
            text.append('/');
            for (int what = 0; what <= 7; what++) {
                text.append(x.street(street, what)).append(' ');
            }
        }
        int[] inMind = {x.again(), x.mud(0, 7), x.worst(9, 0), x.felt(0, x.count(0) - 1), x.worth(0, 9), x.bestMap(2, -1),
            x.change(4), x.cure(0, 5), x.takeOut(0, 6), x.putIn(0, 1, 5), x.seeds(5, 7), x.ring(), x.rings(), x.never()};
        return text.append(Arrays.toString(inMind)).append('\n').toString();
    }

    private static void tell(PavedByNext x, String text) {
        letters(x, text);
        due("statements of the test's own " + text, x.town(), text.length() - text.replace(";", "").length());
    }

    private static void letters(PavedByNext x, String text) {
        for (int i = 0; i < text.length(); i++) {
            x.letter(text.charAt(i));
        }
    }

    /** How an object is before the calls that are looked at. */
    private static final class Case {
        private static final String[] STREETS = {"sw723;", "sc614;", "st821;", "sl502;", "sm431;", "sw900;"};
        final int streets;
        final int row;
        final String letters;
        final boolean image;
        final String all;

        Case(int streets, int row, String letters, boolean image) {
            this.streets = streets;
            this.row = row;
            this.letters = letters;
            this.image = image;
            this.all = RefusalTests.all(make(), this);
        }

        PavedByNext make() {
            PavedByNext x = new PavedByNext();
            for (int street = 0; street < streets; street++) {
                tell(x, STREETS[street]);
            }
            x.year();
            if (image) {
                x.image();
                x.year();
            }
            if (streets > 0) {
                x.mends(streets - 1, streets / 2);
                x.pence(0, 50);
                x.hands(streets - 1, 1);
            }
            for (int street = 0; street < row; street++) {
                x.row(street < streets ? x.street(street, 1) : number(street));
            }
            RefusalTests.letters(x, letters);
            return x;
        }

        /** What is told in the ROW of a street that is not there. */
        int number(int street) {
            return 9 - street;
        }

        @Override
        public String toString() {
            return "with " + streets + " streets, " + row + " in the ROW, " + letters.length() + " letters:";
        }

        private boolean nobody(int street) {
            return street < 0 || street >= streets;
        }

        private static int range(int v, int least, int most) {
            return v < least ? -4 : v > most ? -6 : 0;
        }

        private int years(int street, int n, int least, int most) {
            return nobody(street) ? -1 : range(n, least, most);
        }

        /** As the document's promises tell it, 0 where the call is taken. */
        int refusal(Asked asked) {
            int a = asked.a;
            int b = asked.b;
            int c = asked.c;
            switch (asked.call) {
                case LETTER: return a < 0 ? -4 : a > 255 || letters.length() == 64 ? -6 : 0;
                case STREET: return nobody(a) ? -1 : b < 0 || b > 7 ? -2 : 0;
                case MENDS: case WAY: case FELT: return nobody(a) || nobody(b) ? -1 : 0;
                case PENCE: return years(a, b, 0, 99);
                case HANDS: return years(a, b, 0, 4);
                case MUD: return a == -1 ? range(b, 0, 60) : years(a, b, 0, 60);
                case WORST: return range(a, 0, 60) != 0 ? range(a, 0, 60) : b != 0 && b != 1 ? -2 : 0;
                case TAIL: return nobody(a) ? -1 : 0;
                case WORTH: return years(a, b, 0, 60);
                case BEST_MAP: return b == -1 ? range(a, 1, 30) : years(b, a, 1, 30);
                case CHANGE: case SEEDS: return range(a, 1, 30);
                case CURE: case TAKE_OUT: return years(a, b, 1, 30);
                case PUT_IN:
                    return nobody(a) ? -1 : b < 0 || c < 1 ? -4 : b > 4 || c > 30 || streets == 6 ? -6 : 0;
                case ROW: return a < 0 ? -4 : a > 9 || row == 6 ? -6 : 0;
                case FITTING: return years(a, b, 1, 30) != 0 ? years(a, b, 1, 30) : row != streets ? -3 : 0;
                case ON: return image ? 0 : -3;
                default: return 0;
            }
        }
    }

    /** The calls of the document's face; those that change something when they are not refused say so. */
    private enum Call {
        LETTER(1, true), TOWN(0, true), STREET(2, false), MENDS(2, true), PENCE(2, true), HANDS(2, true), YEAR(0, true),
        MUD(2, false), WORST(2, false), AGAIN(0, false), WAY(2, false), RING(0, false), TAIL(1, false), RINGS(0, false),
        NEVER(0, false), FELT(2, false), WORTH(2, false), BEST_MAP(2, false), CHANGE(1, false), CURE(2, false),
        PUT_IN(3, false), TAKE_OUT(2, false), ROW(1, true), FITTING(2, false), JUDGE(0, true), SEEDS(2, false),
        IMAGE(0, true), ON(0, true), COUNT(1, false);

        final int numbers;
        final boolean changes;

        Call(int numbers, boolean changes) {
            this.numbers = numbers;
            this.changes = changes;
        }

        int on(PavedByNext x, int a, int b, int c) {
            switch (this) {
                case LETTER: return x.letter(a);
                case TOWN: return x.town();
                case STREET: return x.street(a, b);
                case MENDS: return x.mends(a, b);
                case PENCE: return x.pence(a, b);
                case HANDS: return x.hands(a, b);
                case YEAR: return x.year();
                case MUD: return x.mud(a, b);
                case WORST: return x.worst(a, b);
                case AGAIN: return x.again();
                case WAY: return x.way(a, b);
                case RING: return x.ring();
                case TAIL: return x.tail(a);
                case RINGS: return x.rings();
                case NEVER: return x.never();
                case FELT: return x.felt(a, b);
                case WORTH: return x.worth(a, b);
                case BEST_MAP: return x.bestMap(a, b);
                case CHANGE: return x.change(a);
                case CURE: return x.cure(a, b);
                case PUT_IN: return x.putIn(a, b, c);
                case TAKE_OUT: return x.takeOut(a, b);
                case ROW: return x.row(a);
                case FITTING: return x.fitting(a, b);
                case JUDGE: return x.judge();
                case SEEDS: return x.seeds(a, b);
                case IMAGE: return x.image();
                case ON: return x.on();
                default: return x.count(a);
            }
        }
    }
}
