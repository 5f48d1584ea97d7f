import java.util.ArrayList;
import java.util.List;
import java.util.Random;
import java.util.regex.Matcher;
import java.util.regex.Pattern;

/** Long runs of calls, each answer held against a slow, literal second writing of the document. */
public final class AgainstPlainOfficeTest {
    private static final int RUNS = 500;
    /** What an object answers behind its 512th call is free. */
    private static final int CALLS = 512;
    /** The dearest step puts a text of 400 bytes on the tape. */
    private static final int CALLS_OF_A_STEP = 30;

    public static void main(String[] args) {
        int wrong = 0;
        int[] refused = new int[7];
        for (int seed = 0; seed < RUNS; seed++) {
            wrong += new Run(seed, refused).go() ? 0 : 1;
        }
        for (int code : new int[] {1, 2, 3, 5, 6}) {
            if (refused[code] == 0) {
                wrong++;
                System.out.println("no call was refused by -" + code);
            }
        }
        System.out.println(wrong == 0 ? "all answers are as due" : wrong + " runs are not as due");
        if (wrong != 0) {
            System.exit(1);
        }
    }

    /** One run of random calls on both offices. */
    private static final class Run {
        final int seed;
        final int[] refused;
        final Random random;
        final WaterOffice x = new WaterOffice();
        final Plain p = new Plain();
        final int span;
        final int water;
        boolean good = true;
        int calls = 0;

        Run(int seed, int[] refused) {
            this.seed = seed;
            this.refused = refused;
            random = new Random(seed);
            span = seed % 3 == 0 ? 200 : 25;
            water = seed % 2 == 0 ? 100000 : 3000;
        }

        boolean go() {
            for (int step = 0; good && calls <= CALLS - CALLS_OF_A_STEP; step++) {
                call(seed % 4 == 1 && step < 60 ? random.nextInt(8) : random.nextInt(34));
                refused[-p.status]++;
                if (random.nextInt(3) == 0) {
                    due("status()", x.status(), p.status);
                }
            }
            return good;
        }

        void due(String call, long got, long want) {
            calls++;
            if (got != want) {
                good = false;
                System.out.println("run " + seed + ", call " + calls + ": " + call + " answered " + got
                        + ", due is " + want);
            }
        }

        /** Most times a number of 0 .. count - 1, now and then one outside. */
        int pick(int count) {
            int kind = random.nextInt(40);
            if (kind == 0) {
                return count;
            }
            if (kind == 1) {
                return -1;
            }
            if (kind == 2) {
                return random.nextInt();
            }
            return count > 0 ? random.nextInt(count) : 0;
        }

        int year() {
            return random.nextInt(60) == 0 ? pick(201) : pick(span + 1);
        }

        int amount(int most) {
            int kind = random.nextInt(30);
            return kind == 0 ? most : kind == 1 ? most + 1 : pick(Math.min(most, water) + 1);
        }

        int castleNumber() {
            return pick(p.castles.size());
        }

        void call(int kind) {
            int a;
            int b;
            int c;
            int d;
            switch (kind) {
                case 0:
                    a = amount(100000);
                    due("aqueduct(" + a + ")", x.aqueduct(a), p.aqueduct(a));
                    break;
                case 1: case 8:
                    a = pick(p.aqueducts.size()); b = year(); c = amount(100000);
                    due("spring(" + a + ", " + b + ", " + c + ")", x.spring(a, b, c), p.spring(a, b, c));
                    break;
                case 2: case 9:
                    a = random.nextInt(3) == 0 ? pick(p.aqueducts.size()) : 100 + castleNumber();
                    b = amount(100000); c = random.nextInt(3) == 0 ? 0 : pick(random.nextInt(4) == 0 ? 1001 : 200);
                    due("castle(" + a + ", " + b + ", " + c + ")", x.castle(a, b, c), p.castle(a, b, c));
                    break;
                case 3:
                    due("person()", x.person(), p.person());
                    break;
                case 4: case 10:
                    a = pick(p.persons); b = year(); c = year();
                    due("death(" + a + ", " + b + ", " + c + ")", x.death(a, b, c), p.death(a, b, c));
                    break;
                case 5: case 6: case 11: case 12: case 13:
                    a = castleNumber(); b = amount(1000); c = pick(3);
                    d = c == 2 ? pick(p.persons) : pick(8);
                    due("nozzle(" + a + ", " + b + ", " + c + ", " + d + ")", x.nozzle(a, b, c, d),
                            p.nozzle(a, b, c, d));
                    break;
                case 14:
                    a = pick(p.nozzles.size());
                    due("shut(" + a + ")", x.shut(a), p.shut(a));
                    break;
                case 7: case 15: case 16:
                    a = castleNumber(); b = amount(10000); c = year(); d = c + pick(10);
                    due("tap(" + a + ", " + b + ", " + c + ", " + d + ")", x.tap(a, b, c, d), p.tap(a, b, c, d));
                    break;
                case 17:
                    a = castleNumber(); b = year(); c = b + pick(5);
                    due("repair(" + a + ", " + b + ", " + c + ")", x.repair(a, b, c), p.repair(a, b, c));
                    break;
                case 18:
                    a = random.nextInt(20) == 0 ? pick(52) : 1 + random.nextInt(span / 20 + 1);
                    due("go(" + a + ")", x.go(a), p.go(a));
                    break;
                case 19: case 20:
                    text();
                    break;
                default:
                    ask(kind);
            }
        }

        void ask(int kind) {
            int a;
            int b;
            int c;
            int d;
            switch (kind) {
                case 21:
                    a = year(); b = pick(8);
                    due("law(" + a + ", " + b + ")", x.law(a, b), p.law(a, b));
                    break;
                case 22:
                    a = pick(p.nozzles.size()); b = year(); c = year();
                    due("lives(" + a + ", " + b + ", " + c + ")", x.lives(a, b, c), p.lives(a, b, c));
                    break;
                case 23: case 24:
                    a = pick(p.nozzles.size()); b = year(); c = year();
                    due("gets(" + a + ", " + b + ", " + c + ")", x.gets(a, b, c), p.gets(a, b, c));
                    break;
                case 25: case 26:
                    a = castleNumber(); b = year(); c = year(); d = pick(7);
                    due("at(" + a + ", " + b + ", " + c + ", " + d + ")", x.at(a, b, c, d), p.at(a, b, c, d));
                    break;
                case 27:
                    a = pick(8); b = year(); c = year();
                    due("dry(" + a + ", " + b + ", " + c + ")", x.dry(a, b, c), p.dry(a, b, c));
                    break;
                case 28:
                    a = castleNumber(); b = year();
                    due("found(" + a + ", " + b + ")", x.found(a, b), p.found(a, b));
                    break;
                case 29:
                    a = castleNumber(); b = pick(11); c = year(); d = c + pick(12);
                    due("best(" + a + ", " + b + ", " + c + ", " + d + ")", x.best(a, b, c, d), p.best(a, b, c, d));
                    break;
                case 30:
                    a = pick(p.persons); b = year();
                    due("rent(" + a + ", " + b + ")", x.rent(a, b), p.rent(a, b));
                    break;
                case 31:
                    a = castleNumber();
                    due("fines(" + a + ")", x.fines(a), p.fines(a));
                    break;
                case 32:
                    a = pick(p.persons); b = year();
                    due("dead(" + a + ", " + b + ")", x.dead(a, b), p.dead(a, b));
                    break;
                default:
                    a = pick(11);
                    due("count(" + a + ")", x.count(a), p.count(a));
            }
        }

        void text() {
            String text = random.nextInt(8) == 0 ? "" : spoilt(someLaws());
            for (int i = 0; i < text.length(); i += 20) {
                int[] n = new int[5];
                for (int j = 0; j < 20; j++) {
                    int b = i + j < text.length() ? text.charAt(i + j) : random.nextInt(256);
                    n[j / 4] = n[j / 4] << 8 | b;
                }
                due("feed", x.feed(n[0], n[1], n[2], n[3], n[4]), p.feed(n));
            }
            int end = random.nextInt(20) == 0 ? pick(410) : text.length();
            due("end(" + end + ")", x.end(end), p.end(end));
            if (random.nextInt(20) != 0) {
                String tape = p.tape.toString();
                due("laws() of \"" + tape + "\"", x.laws(), p.laws());
                due("fault() of \"" + tape + "\"", x.fault(), p.fault);
            }
        }

        String someLaws() {
            StringBuilder text = new StringBuilder();
            int count = random.nextInt(15) == 0 ? 29 + random.nextInt(4) : 1 + random.nextInt(8);
            String gap = count > 20 ? "" : " ";
            for (int i = 0; i < count; i++) {
                text.append(i == 0 ? "" : ";").append("from").append(gap);
                int first = random.nextInt(count > 20 ? 9 : span);
                text.append(first).append(gap);
                if (count < 20 && random.nextBoolean()) {
                    text.append("to ").append(first + random.nextInt(12)).append(gap);
                }
                text.append(someRule(gap, count > 20));
            }
            return text.toString();
        }

        String someRule(String gap, boolean isShort) {
            int most = isShort ? 9 : random.nextInt(10) == 0 ? 100000 : 9;
            switch (random.nextInt(isShort ? 3 : 6)) {
                case 0: return "rent" + gap + random.nextInt(most + 1);
                case 1: return "fine" + gap + random.nextInt(most + 1);
                case 2: return "most" + gap + random.nextInt(isShort ? 10 : Math.min(water, 1000));
                case 3: return "heirs" + gap + random.nextInt(most + 1);
                case 4: return "close" + gap + random.nextInt(3);
                default: return "first " + new String[] {"fountains", "baths", "grants"}[random.nextInt(3)];
            }
        }

        String spoilt(String text) {
            if (random.nextInt(3) != 0) {
                return text;
            }
            StringBuilder spoilt = new StringBuilder(text);
            int place = random.nextInt(text.length());
            switch (random.nextInt(4)) {
                case 0: spoilt.deleteCharAt(place); break;
                case 1: spoilt.insert(place, ' '); break;
                case 2: spoilt.setCharAt(place, "; 0199ahzA\0\u00ff{`/:"
                        .charAt(random.nextInt(16))); break;
                default: spoilt.setLength(place);
            }
            return spoilt.toString();
        }
    }

    /** The document written again, in its order, with lists and with no care for speed. */
    private static final class Plain {
        static final int NONE = -1;
        int now;
        int status;
        int fault = NONE;
        int persons;
        final List<Integer> aqueducts = new ArrayList<>();
        final List<int[]> springs = new ArrayList<>();
        final List<int[]> castles = new ArrayList<>();
        final List<int[]> deaths = new ArrayList<>();
        final List<int[]> nozzles = new ArrayList<>();
        final List<int[]> taps = new ArrayList<>();
        final List<int[]> repairs = new ArrayList<>();
        List<int[]> laws = new ArrayList<>();
        final StringBuilder tape = new StringBuilder();

        static boolean in(int n, int a, int b) {
            return a <= n && n <= b;
        }

        static boolean isYear(int y) {
            return in(y, 0, 200);
        }

        static boolean of(int n, List<?> list) {
            return in(n, 0, list.size() - 1);
        }

        int refuse(int code) {
            status = code;
            return code;
        }

        int ok(int answer) {
            status = 0;
            return answer;
        }

        int aqueduct(int amount) {
            if (!in(amount, 0, 100000)) return refuse(-1);
            if (aqueducts.size() == 4) return refuse(-5);
            aqueducts.add(amount);
            return ok(aqueducts.size() - 1);
        }

        int spring(int aqueduct, int year, int amount) {
            if (!isYear(year) || !in(amount, 0, 100000)) return refuse(-1);
            if (!of(aqueduct, aqueducts)) return refuse(-2);
            for (int[] s : springs) {
                if (s[0] == aqueduct && s[1] == year) {
                    s[2] = amount;
                    return ok(0);
                }
            }
            if (springs.size() == 60) return refuse(-5);
            springs.add(new int[] {aqueduct, year, amount});
            return ok(0);
        }

        int castle(int from, int carries, int loss) {
            if (!in(carries, 1, 100000) || !in(loss, 0, 1000)) return refuse(-1);
            if (!of(from, aqueducts) && (from < 100 || !of(from - 100, castles))) return refuse(-2);
            if (castles.size() == 12) return refuse(-5);
            castles.add(new int[] {from, carries, loss});
            return ok(castles.size() - 1);
        }

        int person() {
            if (persons == 40) return refuse(-5);
            return ok(persons++);
        }

        int death(int person, int year, int known) {
            if (!isYear(year) || !isYear(known)) return refuse(-1);
            if (!in(person, 0, persons - 1)) return refuse(-2);
            if (deaths.size() == 60) return refuse(-5);
            deaths.add(new int[] {person, year, known});
            return ok(deaths.size());
        }

        int nozzle(int castle, int size, int rank, int of) {
            if (!in(size, 1, 1000) || !in(rank, 0, 2) || rank < 2 && !in(of, 0, 7)) return refuse(-1);
            if (!of(castle, castles) || rank == 2 && !in(of, 0, persons - 1)) return refuse(-2);
            int most = law(now, 4);
            if (rank == 2 && most != NONE && size > most) return refuse(-3);
            if (nozzles.size() == 80) return refuse(-5);
            nozzles.add(new int[] {castle, size, rank, of, now, 1000});
            return ok(nozzles.size() - 1);
        }

        int shut(int nozzle) {
            if (!of(nozzle, nozzles)) return refuse(-2);
            if (nozzles.get(nozzle)[5] == 1000) nozzles.get(nozzle)[5] = now;
            return ok(0);
        }

        int tap(int castle, int amount, int first, int last) {
            if (!in(amount, 1, 10000) || !isYear(first) || !isYear(last) || last < first) return refuse(-1);
            if (!of(castle, castles)) return refuse(-2);
            if (taps.size() == 60) return refuse(-5);
            taps.add(new int[] {castle, amount, first, last});
            return ok(taps.size());
        }

        int repair(int castle, int first, int last) {
            if (!isYear(first) || !isYear(last) || last < first) return refuse(-1);
            if (!of(castle, castles)) return refuse(-2);
            if (repairs.size() == 40) return refuse(-5);
            repairs.add(new int[] {castle, first, last});
            return ok(repairs.size());
        }

        int go(int years) {
            if (!in(years, 1, 50) || now + years > 200) return refuse(-1);
            return ok(now += years);
        }

        int feed(int[] numbers) {
            if (tape.length() + 20 > 400) return NONE;
            for (int n : numbers) {
                tape.append((char) (n >>> 24)).append((char) (n >>> 16 & 255));
                tape.append((char) (n >>> 8 & 255)).append((char) (n & 255));
            }
            return tape.length();
        }

        int end(int n) {
            if (n < 0 || n > tape.length()) return NONE;
            tape.setLength(n);
            return n;
        }

        int laws() {
            String text = tape.toString();
            tape.setLength(0);
            List<int[]> read = new ArrayList<>();
            fault = readLaws(text, read);
            if (fault != NONE) return refuse(-6);
            laws = read;
            return ok(laws.size());
        }

        /** What may come next is a state: each token leads on to another one or is the fault. */
        static int readLaws(String text, List<int[]> read) {
            Matcher m = Pattern.compile("[a-z]+|[0-9]+|[^ ]", Pattern.DOTALL).matcher(text);
            String state = "from";
            int[] law = null;
            boolean any = false;
            while (m.find()) {
                any = true;
                String t = m.group();
                int n = t.matches("[0-9]+") ? new java.math.BigInteger(t)
                        .min(java.math.BigInteger.valueOf(1000000)).intValue() : NONE;
                String next = null;
                switch (state) {
                    case "from":
                        if (t.equals("from") && read.size() < 30) next = "year";
                        law = new int[] {0, 200, 0, 0};
                        break;
                    case "year":
                        if (in(n, 0, 200)) next = "to or rule";
                        law[0] = n;
                        break;
                    case "to or rule": case "rule":
                        if (t.equals("to") && state.equals("to or rule")) next = "second";
                        law[2] = List.of("first", "heirs", "rent", "fine", "most", "close").indexOf(t);
                        if (law[2] >= 0) next = law[2] == 0 ? "name" : law[2] == 5 ? "rank" : "number";
                        break;
                    case "second":
                        if (in(n, law[0], 200)) next = "rule";
                        law[1] = n;
                        break;
                    case "name":
                        law[3] = List.of("fountains", "baths", "grants").indexOf(t);
                        if (law[3] >= 0) next = "done";
                        break;
                    case "rank": case "number":
                        if (in(n, 0, state.equals("rank") ? 2 : 100000)) next = "done";
                        law[3] = n;
                        break;
                    default:
                        if (t.equals(";")) next = "from";
                }
                if (next == null) return m.start();
                if (next.equals("done")) read.add(law);
                state = next;
            }
            boolean blanksAlone = !any && text.length() > 0;
            return state.equals("done") || blanksAlone ? NONE : text.length();
        }

        int law(int year, int what) {
            if (!isYear(year) || !in(what, 0, 7)) return NONE;
            int counts = what == 4 ? NONE : 0;
            for (int[] l : laws) {
                if (!in(year, l[0], l[1])) continue;
                if (what < 5 && l[2] == what) counts = l[3];
                if (what >= 5 && l[2] == 5 && l[3] == what - 5) counts = 1;
            }
            return counts;
        }

        int dead(int person, int known) {
            if (!in(person, 0, persons - 1) || !isYear(known)) return NONE;
            int year = NONE;
            for (int[] d : deaths) {
                if (d[0] == person && d[2] <= known) year = d[1];
            }
            return year;
        }

        boolean isOpen(int nozzle, int year) {
            int[] n = nozzles.get(nozzle);
            return n[4] <= year && year < n[5];
        }

        int lives(int nozzle, int year, int known) {
            if (!of(nozzle, nozzles) || !isYear(year) || !isYear(known)) return NONE;
            int[] n = nozzles.get(nozzle);
            if (n[2] != 2) return NONE;
            int most = law(year, 4);
            int death = dead(n[3], known);
            boolean lives = isOpen(nozzle, year) && (most == NONE || n[1] <= most)
                    && (death == NONE || year <= death + law(year, 1));
            return lives ? 1 : 0;
        }

        static long[] shares(long w, long[] weights) {
            long all = 0;
            for (long weight : weights) all += weight;
            if (all <= w) return weights.clone();
            long[] shares = new long[weights.length];
            long left = w;
            for (int i = 0; i < weights.length; i++) {
                shares[i] = w * weights[i] / all;
                left -= shares[i];
            }
            while (left > 0) {
                for (int i = 0; i < weights.length && left > 0; i++) {
                    if (weights[i] > 0) {
                        shares[i]++;
                        left--;
                    }
                }
            }
            return shares;
        }

        long carries(int castle, int year) {
            for (int[] r : repairs) {
                if (r[0] == castle && in(year, r[1], r[2])) return 0;
            }
            return castles.get(castle)[1];
        }

        /** Rows 0 .. 6 are those of at(), row 7 is what each nozzle gets. */
        long[][] flows(int year, int known) {
            long[][] f = new long[8][80];
            long[] yield = new long[4];
            for (int i = 0; i < aqueducts.size(); i++) yield[i] = aqueducts.get(i);
            for (int[] s : springs) {
                if (s[1] == year) yield[s[0]] = s[2];
            }
            for (int c = 0; c < castles.size(); c++) {
                int[] castle = castles.get(c);
                if (castle[0] < 100) {
                    f[1][c] = Math.min(yield[castle[0]], carries(c, year));
                    yield[castle[0]] -= f[1][c];
                }
                long left = f[1][c];
                for (int[] t : taps) {
                    if (t[0] == c && in(year, t[2], t[3])) left = Math.max(0, left - t[1]);
                }
                f[2][c] = f[1][c] - left;
                f[3][c] = left * castle[2] / 1000;
                f[0][c] = left - f[3][c];
                left = toNozzles(c, year, known, f);
                f[4][c] = f[0][c] - left;
                f[5][c] = toPipes(c, year, left, f);
                f[6][c] = left - f[5][c];
            }
            return f;
        }

        long toNozzles(int c, int year, int known, long[][] f) {
            long left = f[0][c];
            List<Integer> order = new ArrayList<>(List.of(0, 1, 2));
            order.remove((Integer) law(year, 0));
            order.add(0, law(year, 0));
            for (int rank : order) {
                if (law(year, 5 + rank) == 1) continue;
                long[] weights = new long[80];
                for (int n = 0; n < nozzles.size(); n++) {
                    int[] z = nozzles.get(n);
                    boolean takes = rank == 2 ? lives(n, year, known) == 1 : isOpen(n, year);
                    if (z[0] == c && z[2] == rank && takes) weights[n] = z[1];
                }
                long[] shares = shares(left, weights);
                for (int n = 0; n < 80; n++) {
                    f[7][n] += shares[n];
                    left -= shares[n];
                }
            }
            return left;
        }

        long toPipes(int c, int year, long left, long[][] f) {
            long[] weights = new long[12];
            for (int d = 0; d < castles.size(); d++) {
                if (castles.get(d)[0] == 100 + c) weights[d] = carries(d, year);
            }
            long[] shares = shares(left, weights);
            long sum = 0;
            for (int d = 0; d < 12; d++) {
                f[1][d] += shares[d];
                sum += shares[d];
            }
            return sum;
        }

        int gets(int nozzle, int year, int known) {
            if (!of(nozzle, nozzles) || !isYear(year) || !isYear(known)) return NONE;
            return (int) flows(year, known)[7][nozzle];
        }

        int at(int castle, int year, int known, int what) {
            if (!of(castle, castles) || !isYear(year) || !isYear(known) || !in(what, 0, 6)) return NONE;
            return (int) flows(year, known)[what][castle];
        }

        int dry(int quarter, int year, int known) {
            if (!in(quarter, 0, 7) || !isYear(year) || !isYear(known)) return NONE;
            long[] gets = flows(year, known)[7];
            double size = 0;
            double got = 0;
            for (int n = 0; n < nozzles.size(); n++) {
                int[] z = nozzles.get(n);
                if (z[2] < 2 && z[3] == quarter && isOpen(n, year)) {
                    size += z[1];
                    got += gets[n];
                }
            }
            return size > 0 && got < size / 2 ? 1 : 0;
        }

        int found(int castle, int year) {
            if (!of(castle, castles) || !isYear(year)) return NONE;
            long[][] f = flows(year, now);
            for (int t = 0; ; t++) {
                long rest = f[1][castle] - t;
                if (rest - rest * castles.get(castle)[2] / 1000 == f[0][castle]) return t;
            }
        }

        int best(int castle, int years, int from, int to) {
            if (!in(years, 1, 10) || !isYear(from) || !isYear(to) || to < from || to + years - 1 > 200) return -1;
            if (!of(castle, castles)) return -2;
            int best = NONE;
            int least = 0;
            for (int begin = from; begin <= to; begin++) {
                repairs.add(new int[] {castle, begin, begin + years - 1});
                int sum = 0;
                for (int year = begin; year < begin + years; year++) {
                    for (int q = 0; q < 8; q++) sum += dry(q, year, now);
                }
                repairs.remove(repairs.size() - 1);
                if (best == NONE || sum < least) {
                    best = begin;
                    least = sum;
                }
            }
            return best;
        }

        long rent(int person, int known) {
            if (!isYear(known)) return -1;
            if (!in(person, 0, persons - 1)) return -2;
            long sum = 0;
            int death = dead(person, known);
            for (int year = 0; year < now; year++) {
                long[] gets = flows(year, known)[7];
                for (int n = 0; n < nozzles.size(); n++) {
                    boolean isOwn = nozzles.get(n)[2] == 2 && nozzles.get(n)[3] == person;
                    if (isOwn && lives(n, year, known) == 1 && (death == NONE || death >= year)) {
                        sum += law(year, 2) * gets[n];
                    }
                }
            }
            return sum;
        }

        long fines(int castle) {
            if (!of(castle, castles)) return -2;
            long sum = 0;
            for (int year = 0; year < now; year++) sum += law(year, 3) * flows(year, now)[2][castle];
            return sum;
        }

        int count(int what) {
            int[] counts = {now, aqueducts.size(), castles.size(), nozzles.size(), persons, deaths.size(),
                taps.size(), repairs.size(), laws.size(), tape.length(), springs.size()};
            return in(what, 0, 10) ? counts[what] : NONE;
        }
    }
}
