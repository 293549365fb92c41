import java.util.ArrayList;
import java.util.Arrays;
import java.util.HashMap;
import java.util.HashSet;
import java.util.LinkedHashSet;
import java.util.List;
import java.util.Map;
import java.util.Random;
import java.util.Set;
import java.util.function.Consumer;
import java.util.function.ToIntFunction;
import java.util.regex.Matcher;
import java.util.regex.Pattern;
import java.util.stream.IntStream;

/** Drawn runs of calls, the same ones each time, against a second program written from the document in another way. */
public final class AgainstPlainModel {
    private static final int RUNS = 400;
    private static final int CALLS = 512;
    private static final String[] CALL_NAMES = ("letter town street mends pence hands year mud worst again way ring tail"
            + " rings never felt worth bestMap change cure putIn takeOut row fitting judge seeds image on count")
            .split(" ");

    private static int wrong = 0;

    public static void main(String[] args) {
        Map<String, Set<Integer>> answers = new HashMap<>();
        for (int run = 0; run < RUNS && wrong < 20; run++) {
            new Run(run, answers).go();
        }
        for (String name : CALL_NAMES) {
            int kinds = answers.getOrDefault(name, Set.of()).size();
            if (kinds < 3) {
                wrong++;
                System.out.println(name + " was asked for too few answers: " + kinds);
            }
        }
        System.out.println(wrong == 0 ? "all drawn runs are as the model has them" : wrong + " are not");
        if (wrong != 0) {
            System.exit(1);
        }
    }

    /** One object and one model, called alike. */
    private static final class Run {
        final int number;
        final Random random;
        final Map<String, Set<Integer>> answers;
        final PavedByNext object = new PavedByNext();
        final Model model = new Model();
        final List<String> told = new ArrayList<>();
        int calls = 0;

        Run(int number, Map<String, Set<Integer>> answers) {
            this.number = number;
            this.random = new Random(7000 + number);
            this.answers = answers;
        }

        void go() {
            while (calls < CALLS && wrong < 20) {
                if (random.nextInt(12) == 0 || calls == 0) {
                    tellTown();
                } else if (random.nextInt(25) == 0) {
                    tellRow();
                } else {
                    String name = CALL_NAMES[random.nextInt(CALL_NAMES.length)];
                    if (!name.equals("bestMap") || random.nextInt(3) == 0) {
                        call(name, argument(name, 0), argument(name, 1), argument(name, 2));
                    }
                }
            }
        }

        void tellTown() {
            StringBuilder text = new StringBuilder();
            int statements = 1 + random.nextInt(random.nextInt(4) == 0 ? 14 : 5);
            for (int i = 0; i < statements; i++) {
                text.append(statement());
            }
            if (random.nextInt(5) == 0) {
                int place = random.nextInt(text.length());
                String letters = "sdltwmcp,;0123456789x\u00e9";
                if (random.nextBoolean()) {
                    text.setCharAt(place, letters.charAt(random.nextInt(letters.length())));
                } else {
                    text.deleteCharAt(place);
                }
            }
            for (int i = 0; i < text.length(); i++) {
                call("letter", text.charAt(i), 0, 0);
            }
            call("town", 0, 0, 0);
        }

        String statement() {
            int streets = Math.max(1, model.streets.size());
            switch (random.nextInt(7)) {
                case 0: return "m" + upTo(streets) + upTo(streets) + ";";
                case 1: return "p" + upTo(streets) + "," + upTo(random.nextBoolean() ? 4 : 100) + ";";
                case 2: return "p" + upTo(streets) + ",0" + random.nextInt(10) + ";";
                default: return "s" + "dltwmc".charAt(random.nextInt(6)) + random.nextInt(10)
                        + upTo(4) + upTo(5) + ";";
            }
        }

        String upTo(int many) {
            return Integer.toString(random.nextInt(random.nextInt(40) == 0 ? many + 1 : many));
        }

        void tellRow() {
            int[] muds = model.streets.stream().mapToInt(s -> s.mud).toArray();
            int length = Math.max(0, muds.length + (random.nextInt(3) == 0 ? random.nextInt(3) - 1 : 0));
            for (int i = 0; i < length; i++) {
                boolean asIs = i < muds.length && random.nextInt(12) != 0;
                call("row", asIs ? muds[i] : random.nextInt(10), 0, 0);
            }
            call(random.nextBoolean() ? "judge" : "fitting", random.nextInt(6), 1 + random.nextInt(3), 0);
        }

        int argument(String name, int which) {
            int chance = random.nextInt(60);
            if (chance == 0) {
                int[] far = {Integer.MIN_VALUE, Integer.MAX_VALUE, Integer.MIN_VALUE + 1, -1000, 1000, 1 << 16};
                return far[random.nextInt(far.length)];
            }
            if (chance < 4) {
                int[] edges = {-2, -1, 0, 1, 4, 5, 6, 9, 10, 29, 30, 31, 59, 60, 61, 64, 98, 99, 100, 255, 256};
                return edges[random.nextInt(edges.length)];
            }
            return inRange(name, which);
        }

        int inRange(String name, int which) {
            int street = random.nextInt(Math.max(1, model.streets.size()));
            boolean years = which == 1;
            switch (name) {
                case "letter": return "sd;0".charAt(random.nextInt(4));
                case "row": return random.nextInt(10);
                case "street": return which == 0 ? street : random.nextInt(8);
                case "pence": return which == 0 ? street : random.nextInt(random.nextBoolean() ? 3 : 100);
                case "hands": return which == 0 ? street : random.nextInt(5);
                case "worst": return which == 0 ? random.nextInt(61) : random.nextInt(2);
                case "mud": return years ? random.nextInt(61) : street - random.nextInt(2);
                case "worth": return years ? random.nextInt(61) : street;
                case "bestMap": return which == 0 ? 1 + random.nextInt(30) : street - random.nextInt(2);
                case "change": return 1 + random.nextInt(30);
                case "cure": case "takeOut": case "fitting": return years ? 1 + random.nextInt(30) : street;
                case "putIn": return which == 0 ? street : which == 1 ? random.nextInt(5) : 1 + random.nextInt(30);
                case "seeds": return which == 0 ? 1 + random.nextInt(30) : random.nextInt();
                case "count": return random.nextBoolean() ? random.nextInt(6) : 11 + random.nextInt(6);
                default: return street;
            }
        }

        void call(String name, int a, int b, int c) {
            if (calls >= CALLS) {
                return;
            }
            calls++;
            told.add(name + "(" + a + ", " + b + ", " + c + ")");
            int want = model.call(name, a, b, c);
            int got = callObject(name, a, b, c);
            answers.computeIfAbsent(name, key -> new HashSet<>()).add(got);
            if (got != want) {
                wrong++;
                System.out.println("run " + number + ", call " + calls + ": " + told.get(told.size() - 1)
                        + " answered " + got + ", the model " + want);
            }
        }

        int callObject(String name, int a, int b, int c) {
            PavedByNext x = object;
            switch (name) {
                case "letter": return x.letter(a);
                case "town": return x.town();
                case "street": return x.street(a, b);
                case "mends": return x.mends(a, b);
                case "pence": return x.pence(a, b);
                case "hands": return x.hands(a, b);
                case "year": return x.year();
                case "mud": return x.mud(a, b);
                case "worst": return x.worst(a, b);
                case "again": return x.again();
                case "way": return x.way(a, b);
                case "ring": return x.ring();
                case "tail": return x.tail(a);
                case "rings": return x.rings();
                case "never": return x.never();
                case "felt": return x.felt(a, b);
                case "worth": return x.worth(a, b);
                case "bestMap": return x.bestMap(a, b);
                case "change": return x.change(a);
                case "cure": return x.cure(a, b);
                case "putIn": return x.putIn(a, b, c);
                case "takeOut": return x.takeOut(a, b);
                case "row": return x.row(a);
                case "fitting": return x.fitting(a, b);
                case "judge": return x.judge();
                case "seeds": return x.seeds(a, b);
                case "image": return x.image();
                case "on": return x.on();
                default: return x.count(a);
            }
        }
    }

    /** A call that the document refuses. */
    private static final class Refused extends RuntimeException {
        private static final long serialVersionUID = 1L;
        final int number;

        Refused(int number) {
            super(null, null, false, false);
            this.number = number;
        }
    }

    private static final class Street {
        char kind;
        int mud;
        int wear;
        int hands;
        int pence = 9;
        Street mends;
        int mended;
        boolean lazed;
        boolean left;
    }

    private static final class Model {
        static final String KINDS = "dltwmc";
        static final Pattern TOWN = Pattern.compile("(s[dltwmc][0-9]{3};|m[0-9]{2};|p[0-9],[0-9]{1,2};)+");
        List<Street> streets = new ArrayList<>();
        int year = 0;
        String letters = "";
        List<Integer> row = new ArrayList<>();
        Map<Integer, Integer> refusals = new HashMap<>();
        Model image = null;

        Model copy() {
            Model m = new Model();
            m.year = year;
            for (Street s : streets) {
                Street t = new Street();
                t.kind = s.kind;
                t.mud = s.mud;
                t.wear = s.wear;
                t.hands = s.hands;
                t.pence = s.pence;
                t.mended = s.mended;
                t.lazed = s.lazed;
                t.left = s.left;
                m.streets.add(t);
            }
            for (int i = 0; i < streets.size(); i++) {
                m.streets.get(i).mends = m.streets.get(streets.indexOf(streets.get(i).mends));
            }
            return m;
        }

        Model with(Consumer<Model> change) {
            Model m = copy();
            change.accept(m);
            return m;
        }

        Model behind(int n) {
            Model m = copy();
            for (int i = 0; i < n; i++) {
                m.passYear();
            }
            return m;
        }

        int sum(ToIntFunction<Street> part) {
            return streets.stream().mapToInt(part).sum();
        }

        int mudAll() {
            return sum(s -> s.mud);
        }

        void passYear() {
            streets.forEach(s -> s.mud = Math.min(9, s.mud + s.wear));
            Map<Street, Integer> sums = new HashMap<>();
            streets.forEach(s -> sums.merge(s.mends, amount(s), Integer::sum));
            List<Street> payers = streets.stream().filter(s -> s.kind == 'w' && s.pence > 0 && !s.left).toList();
            for (Street s : streets) {
                s.mended = sums.getOrDefault(s, 0);
                s.mud = Math.max(0, s.mud - s.mended);
            }
            for (Street payer : payers) {
                streets.stream().filter(s -> s.mends == payer && !s.left).findFirst().ifPresent(taker -> {
                    payer.pence -= 1;
                    taker.pence = Math.min(99, taker.pence + 1);
                });
            }
            year++;
        }

        int amount(Street s) {
            if (s.lazed || s.left) {
                return 0;
            }
            int trust = Math.min(s.hands, 1 + s.mended);
            if (s.kind == 'l') {
                return (year & 1) == 0 ? s.hands : 0;
            } else if (s.kind == 't') {
                return trust;
            } else if (s.kind == 'w') {
                return s.pence == 0 ? 0 : s.hands + 1;
            } else if (s.kind == 'm') {
                return s.hands + s.hands;
            } else if (s.kind == 'c') {
                return s.mends.mud > 5 ? s.hands : trust;
            }
            return s.hands;
        }

        int call(String name, int a, int b, int c) {
            try {
                return answer(name, a, b, c);
            } catch (Refused refused) {
                refusals.merge(refused.number, 1, Integer::sum);
                return name.equals("worth") ? 1000000000 - refused.number : refused.number;
            }
        }

        void must(boolean holds, int refusal) {
            if (!holds) {
                throw new Refused(refusal);
            }
        }

        Street lives(int street) {
            must(street >= 0 && street < streets.size(), -1);
            return streets.get(street);
        }

        void years(int n, int least, int most) {
            must(n >= least, -4);
            must(n <= most, -6);
        }

        int answer(String name, int a, int b, int c) {
            switch (name) {
                case "letter": return letter(a);
                case "town": return town();
                case "street": return street(lives(a), b);
                case "mends": return mends(a, b);
                case "pence": return pence(a, b);
                case "hands": return hands(a, b);
                case "year": return year();
                case "mud": return mud(a, b);
                case "worst": return worst(a, b);
                case "again": return again();
                case "way": return way(a, b);
                case "ring": return bits(this::comesBack);
                case "tail": return tail(lives(a));
                case "rings": return rings();
                case "never": return bits(s -> streets.stream().noneMatch(t -> t.mends == s));
                case "felt": return felt(a, b);
                case "worth": return worth(a, b);
                case "bestMap": return bestMap(a, b);
                case "change": return change(a);
                case "cure": return cure(a, b);
                case "putIn": return putIn(a, b, c);
                case "takeOut": return takeOut(a, b);
                case "row": return row(a);
                case "fitting": return fitting(a, b);
                case "judge": return judge();
                case "seeds": return seeds(a, b);
                case "image": image = copy(); return year;
                case "on": return on();
                default: return count(a);
            }
        }

        int letter(int c) {
            must(c >= 0, -4);
            must(c <= 255 && letters.length() < 64, -6);
            letters += (char) c;
            return letters.length();
        }

        int town() {
            String text = letters;
            letters = "";
            for (int end = 1; end <= text.length(); end++) {
                Matcher m = TOWN.matcher(text.substring(0, end));
                if (!m.matches() && !m.hitEnd()) {
                    return -1000 - (end - 1);
                }
            }
            if (!TOWN.matcher(text).matches()) {
                return -1000 - text.length();
            }
            Model m = copy();
            int place = 0;
            int statements = 0;
            for (String statement : text.split(";")) {
                if (!m.takes(statement)) {
                    return -2000 - place;
                }
                place += statement.length() + 1;
                statements++;
            }
            streets = m.streets;
            return statements;
        }

        boolean takes(String statement) {
            int[] n = Arrays.stream(statement.replaceAll("[^0-9,]", "").split(statement.startsWith("p") ? "," : ""))
                    .mapToInt(Integer::parseInt).toArray();
            int size = streets.size();
            if (statement.startsWith("m")) {
                if (n[0] >= size || n[1] >= size) {
                    return false;
                }
                streets.get(n[0]).mends = streets.get(n[1]);
            } else if (statement.startsWith("p")) {
                if (n[0] >= size) {
                    return false;
                }
                streets.get(n[0]).pence = n[1];
            } else {
                if (size == 6 || n[1] > 3 || n[2] > 4) {
                    return false;
                }
                Street s = new Street();
                s.kind = statement.charAt(1);
                s.mud = n[0];
                s.wear = n[1];
                s.hands = n[2];
                streets.add(s);
                s.mends = streets.get(0);
                if (size > 0 && streets.get(size - 1).mends == streets.get(0)) {
                    streets.get(size - 1).mends = s;
                }
            }
            return true;
        }

        int street(Street s, int what) {
            must(what >= 0 && what <= 7, -2);
            return List.of(KINDS.indexOf(s.kind), s.mud, s.wear, s.hands, s.pence, streets.indexOf(s.mends), s.mended,
                    (int) streets.stream().filter(t -> t.mends == s).count()).get(what);
        }

        int mends(int a, int b) {
            Street s = lives(a);
            Street t = lives(b);
            int before = streets.indexOf(s.mends);
            s.mends = t;
            return before;
        }

        int pence(int a, int v) {
            Street s = lives(a);
            years(v, 0, 99);
            int before = s.pence;
            s.pence = v;
            return before;
        }

        int hands(int a, int v) {
            Street s = lives(a);
            years(v, 0, 4);
            int before = s.hands;
            s.hands = v;
            return before;
        }

        int year() {
            must(year != 999, -6);
            passYear();
            return mudAll();
        }

        int mud(int a, int n) {
            if (a != -1) {
                lives(a);
            }
            years(n, 0, 60);
            Model then = behind(n);
            return a == -1 ? then.mudAll() : then.streets.get(a).mud;
        }

        int worst(int n, int what) {
            years(n, 0, 60);
            must(what == 0 || what == 1, -2);
            List<Integer> muds = behind(n).streets.stream().map(s -> s.mud).toList();
            int most = muds.stream().reduce(0, Math::max);
            return what == 0 ? most : muds.isEmpty() ? -9 : muds.indexOf(most);
        }

        String lies() {
            StringBuilder text = new StringBuilder();
            streets.forEach(s -> text.append(s.mud).append('/').append(s.mended).append(' '));
            return text.toString();
        }

        int again() {
            String lies = behind(40).lies();
            return IntStream.rangeClosed(1, 30).filter(n -> behind(40 + n).lies().equals(lies)).findFirst().orElse(-9);
        }

        List<Street> steps(Street from) {
            Set<Street> seen = new LinkedHashSet<>();
            for (Street s = from; seen.add(s); s = s.mends) {
                continue;
            }
            return new ArrayList<>(seen);
        }

        int way(int a, int b) {
            Street s = lives(a);
            Street t = lives(b);
            int found = steps(s).indexOf(t);
            return found < 0 ? -9 : found;
        }

        boolean comesBack(Street s) {
            List<Street> steps = steps(s);
            return steps.get(steps.size() - 1).mends == s;
        }

        int bits(java.util.function.Predicate<Street> which) {
            return IntStream.range(0, streets.size()).filter(i -> which.test(streets.get(i))).map(i -> 1 << i).sum();
        }

        int tail(Street s) {
            return (int) steps(s).stream().filter(t -> !comesBack(t)).count();
        }

        int rings() {
            Set<Set<Street>> rings = new HashSet<>();
            streets.stream().filter(this::comesBack).forEach(s -> rings.add(new HashSet<>(steps(s))));
            return rings.size();
        }

        Model lazing(int a) {
            return with(m -> m.streets.get(a).lazed = true);
        }

        int felt(int a, int b) {
            lives(a);
            lives(b);
            for (int n = 1; n <= 40; n++) {
                if (lazing(a).behind(n).streets.get(b).mud != behind(n).streets.get(b).mud) {
                    return n;
                }
            }
            return -9;
        }

        int worth(int a, int n) {
            lives(a);
            years(n, 0, 60);
            return lazing(a).behind(n).mudAll() - behind(n).mudAll();
        }

        void maps(List<Integer> head, List<List<Integer>> all) {
            if (head.size() == streets.size()) {
                all.add(new ArrayList<>(head));
            }
            for (int i = 0; i < streets.size(); i++) {
                if (!head.contains(i)) {
                    head.add(i);
                    maps(head, all);
                    head.remove(head.size() - 1);
                }
            }
        }

        int bestMap(int n, int a) {
            if (a != -1) {
                lives(a);
            }
            years(n, 1, 30);
            List<List<Integer>> all = new ArrayList<>();
            maps(new ArrayList<>(), all);
            List<Integer> best = null;
            int least = 1000;
            for (List<Integer> map : all) {
                Model m = copy();
                for (int i = 0; i < map.size(); i++) {
                    m.streets.get(i).mends = m.streets.get(map.get(i));
                }
                for (int i = 0; i < n; i++) {
                    m.passYear();
                }
                if (m.mudAll() < least) {
                    least = m.mudAll();
                    best = map;
                }
            }
            return a == -1 ? least : best.get(a);
        }

        int change(int n) {
            years(n, 1, 30);
            int least = behind(n).mudAll();
            int found = -9;
            for (int i = 0; i < streets.size() * streets.size(); i++) {
                int one = i / streets.size();
                int other = i % streets.size();
                int mud = with(m -> m.streets.get(one).mends = m.streets.get(other)).behind(n).mudAll();
                if (mud < least) {
                    least = mud;
                    found = 10 * one + other;
                }
            }
            return found;
        }

        Model cured(int a, int kind) {
            return with(m -> m.streets.get(a).kind = KINDS.charAt(kind));
        }

        int cure(int a, int n) {
            lives(a);
            years(n, 1, 30);
            List<Integer> muds = IntStream.range(0, 6).mapToObj(k -> cured(a, k).behind(n).mudAll()).toList();
            return muds.indexOf(muds.stream().reduce(1000, Math::min));
        }

        int putIn(int a, int hands, int n) {
            lives(a);
            must(hands >= 0 && n >= 1, -4);
            must(hands <= 4 && n <= 30 && streets.size() < 6, -6);
            Model m = copy();
            Street s = new Street();
            s.kind = 'd';
            s.hands = hands;
            s.pence = 0;
            s.mends = m.streets.get(a).mends;
            m.streets.get(a).mends = s;
            m.streets.add(s);
            Model then = m.behind(n);
            return then.streets.stream().limit(streets.size()).mapToInt(t -> t.mud).sum();
        }

        int takeOut(int a, int n) {
            lives(a);
            years(n, 1, 30);
            Model m = copy();
            Street s = m.streets.get(a);
            s.left = true;
            m.streets.stream().filter(t -> t != s && t.mends == s).forEach(t -> t.mends = s.mends);
            Model then = m.behind(n);
            then.streets.remove(a);
            return then.mudAll();
        }

        int row(int v) {
            must(v >= 0, -4);
            must(v <= 9 && row.size() < 6, -6);
            row.add(v);
            return row.size();
        }

        int fitting(int a, int n) {
            lives(a);
            years(n, 1, 30);
            must(row.size() == streets.size(), -3);
            return IntStream.range(0, 6)
                    .filter(k -> cured(a, k).behind(n).streets.stream().map(s -> s.mud).toList().equals(row))
                    .map(k -> 1 << k).sum();
        }

        int judge() {
            List<Integer> told = row;
            row = new ArrayList<>();
            for (int i = 0; i < told.size() && i < streets.size(); i++) {
                if (told.get(i) != streets.get(i).mud) {
                    return i;
                }
            }
            return told.size() < streets.size() ? told.size() : told.size() > streets.size() ? streets.size() : -9;
        }

        int seeds(int n, int z) {
            years(n, 1, 30);
            Model m = copy();
            int[] seed = {z};
            for (int i = 0; i < n; i++) {
                for (Street s : m.streets) {
                    seed[0] = (int) (seed[0] * 1664525L + 1013904223L);
                    s.wear = ((seed[0] << 1) >>> 1 >>> 8) % 4;
                }
                m.passYear();
            }
            return m.mudAll();
        }

        int on() {
            must(image != null, -3);
            Model m = image.copy();
            streets = m.streets;
            year = m.year;
            return year;
        }

        int count(int what) {
            if (what > 10 && what < 17) {
                return refusals.getOrDefault(10 - what, 0);
            }
            switch (what) {
                case 0: return streets.size();
                case 1: return year;
                case 2: return mudAll();
                case 3: return sum(s -> s.pence);
                case 4: return row.size();
                case 5: return letters.length();
                default: return -9;
            }
        }
    }
}
