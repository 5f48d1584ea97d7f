/** The water office of an old city, year by year. DOC.md says what each call promises. */
public final class WaterOffice {
    /** There is none. */
    public static final int NONE = -1;

    private static final int BAD_NUMBER = -1;
    private static final int NO_SUCH = -2;
    private static final int BARRED = -3;
    private static final int NO_ROOM = -5;
    private static final int BAD_TEXT = -6;

    private static final int LAST_YEAR = 200;
    private static final int LONGEST_STEP = 50;
    private static final int LONGEST_REPAIR = 10;
    private static final int MOST_WATER = 100000;
    private static final int MOST_SIZE = 1000;
    private static final int MOST_TAPPED = 10000;
    private static final int THOUSAND = 1000;

    private static final int AQUEDUCTS = 4;
    private static final int SPRINGS = 60;
    private static final int CASTLES = 12;
    private static final int NOZZLES = 80;
    private static final int PERSONS = 40;
    private static final int DEATHS = 60;
    private static final int TAPS = 60;
    private static final int REPAIRS = 40;
    private static final int LAWS = 30;
    private static final int QUARTERS = 8;
    private static final int RANKS = 3;
    private static final int TAPE_BYTES = 400;

    /** From here on a castle's source is another castle, below it an aqueduct. */
    private static final int FIRST_CASTLE_SOURCE = 100;
    private static final int GRANT = 2;

    // What counts in a year, by the numbers that law() takes.
    private static final int FIRST = 0;
    private static final int HEIRS = 1;
    private static final int RENT = 2;
    private static final int FINE = 3;
    private static final int MOST = 4;
    private static final int CLOSE = 5;
    private static final int COUNTED = CLOSE + RANKS;
    private static final int MOST_IN_LAW = 100000;

    // What flows at a castle, by the numbers that at() takes.
    private static final int IN = 0;
    private static final int INTO_PIPE = 1;
    private static final int TAPPED = 2;
    private static final int LOST = 3;
    private static final int GIVEN = 4;
    private static final int ON = 5;
    private static final int WASTE = 6;
    private static final int AMOUNTS = 7;

    // Kinds of bytes: rows of the first two make one token.
    private static final int LETTER = 0;
    private static final int DIGIT = 1;
    private static final int OTHER = 2;

    private final Tape tape;
    private final LawReader reader;
    private final LawBook book;
    private final Deaths deaths;
    private final Springs springs;
    private final Castles castles;
    private final Nozzles nozzles;
    private final Spans taps;
    private final Spans repairs;
    private final Flows flows;
    private final int[] dryQuarters;
    private int persons;
    private int now;
    private int refusal;

    public WaterOffice() {
        tape = new Tape();
        reader = new LawReader(tape);
        book = new LawBook();
        deaths = new Deaths();
        springs = new Springs();
        castles = new Castles();
        nozzles = new Nozzles();
        taps = new Spans(TAPS);
        repairs = new Spans(REPAIRS);
        flows = new Flows(book, deaths, springs, castles, nozzles, taps, repairs);
        dryQuarters = new int[LAST_YEAR + 1];
    }

    public int aqueduct(int amount) {
        if (!isWithin(amount, 0, MOST_WATER)) {
            return told(BAD_NUMBER);
        }
        return told(springs.addAqueduct(amount));
    }

    public int spring(int aqueduct, int year, int amount) {
        if (!isYear(year) || !isWithin(amount, 0, MOST_WATER)) {
            return told(BAD_NUMBER);
        }
        if (!springs.hasAqueduct(aqueduct)) {
            return told(NO_SUCH);
        }
        return told(springs.change(aqueduct, year, amount));
    }

    public int castle(int from, int carries, int loss) {
        if (!isWithin(carries, 1, MOST_WATER) || !isWithin(loss, 0, THOUSAND)) {
            return told(BAD_NUMBER);
        }
        if (!isSource(from)) {
            return told(NO_SUCH);
        }
        return told(castles.build(from, carries, loss));
    }

    public int person() {
        if (persons >= PERSONS) {
            return told(NO_ROOM);
        }
        persons++;
        return told(persons - 1);
    }

    public int death(int person, int year, int known) {
        if (!isYear(year) || !isYear(known)) {
            return told(BAD_NUMBER);
        }
        if (!isPerson(person)) {
            return told(NO_SUCH);
        }
        return told(deaths.add(person, year, known));
    }

    public int nozzle(int castle, int size, int rank, int of) {
        if (!isWithin(size, 1, MOST_SIZE) || !isWithin(rank, 0, GRANT)
                || (rank != GRANT && !isQuarter(of))) {
            return told(BAD_NUMBER);
        }
        if (!castles.has(castle) || (rank == GRANT && !isPerson(of))) {
            return told(NO_SUCH);
        }
        book.settle(now);
        if (rank == GRANT && book.isAboveMost(size)) {
            return told(BARRED);
        }
        return told(nozzles.stamp(castle, size, rank, of, now));
    }

    public int shut(int nozzle) {
        if (!nozzles.has(nozzle)) {
            return told(NO_SUCH);
        }
        nozzles.close(nozzle, now);
        return told(0);
    }

    public int tap(int castle, int amount, int first, int last) {
        if (!isWithin(amount, 1, MOST_TAPPED) || !areYears(first, last)) {
            return told(BAD_NUMBER);
        }
        if (!castles.has(castle)) {
            return told(NO_SUCH);
        }
        return told(taps.add(castle, amount, first, last));
    }

    public int repair(int castle, int first, int last) {
        if (!areYears(first, last)) {
            return told(BAD_NUMBER);
        }
        if (!castles.has(castle)) {
            return told(NO_SUCH);
        }
        return told(repairs.add(castle, 0, first, last));
    }

    public int go(int years) {
        if (!isWithin(years, 1, LONGEST_STEP) || now + years > LAST_YEAR) {
            return told(BAD_NUMBER);
        }
        now += years;
        return told(now);
    }

    public int feed(int a, int b, int c, int d, int e) {
        if (!tape.hasRoom(20)) {
            return NONE;
        }
        tape.write(a);
        tape.write(b);
        tape.write(c);
        tape.write(d);
        tape.write(e);
        return tape.count;
    }

    public int end(int n) {
        if (!isWithin(n, 0, tape.count)) {
            return NONE;
        }
        tape.count = n;
        return n;
    }

    public int laws() {
        boolean good = reader.read();
        tape.count = 0;
        if (!good) {
            return told(BAD_TEXT);
        }
        book.copyFrom(reader.draft);
        return told(book.count);
    }

    public int fault() {
        return reader.faultPlace;
    }

    public int law(int year, int what) {
        if (!isYear(year) || !isWithin(what, 0, COUNTED - 1)) {
            return NONE;
        }
        book.settle(year);
        return book.counts[what];
    }

    public int lives(int nozzle, int year, int known) {
        if (!nozzles.has(nozzle) || !isYear(year) || !isYear(known)
                || nozzles.rank[nozzle] != GRANT) {
            return NONE;
        }
        flows.prepare(year, known);
        return flows.isLiving(nozzle) ? 1 : 0;
    }

    public int gets(int nozzle, int year, int known) {
        if (!nozzles.has(nozzle) || !isYear(year) || !isYear(known)) {
            return NONE;
        }
        flows.run(year, known);
        return flows.got[nozzle];
    }

    public int at(int castle, int year, int known, int what) {
        if (!castles.has(castle) || !isYear(year) || !isYear(known)
                || !isWithin(what, 0, AMOUNTS - 1)) {
            return NONE;
        }
        flows.run(year, known);
        return flows.amount[what][castle];
    }

    public int dry(int quarter, int year, int known) {
        if (!isQuarter(quarter) || !isYear(year) || !isYear(known)) {
            return NONE;
        }
        flows.run(year, known);
        flows.weighQuarters();
        return flows.isDry(quarter) ? 1 : 0;
    }

    public int found(int castle, int year) {
        if (!castles.has(castle) || !isYear(year)) {
            return NONE;
        }
        flows.run(year, now);
        return flows.leastMissing(castle);
    }

    public int best(int castle, int years, int from, int to) {
        if (!isWithin(years, 1, LONGEST_REPAIR) || !areYears(from, to)
                || to + years - 1 > LAST_YEAR) {
            return BAD_NUMBER;
        }
        if (!castles.has(castle)) {
            return NO_SUCH;
        }
        countDryQuarters(castle, from, to + years - 1);
        return leastDryYear(years, from, to);
    }

    public long rent(int person, int known) {
        if (!isYear(known)) {
            return BAD_NUMBER;
        }
        if (!isPerson(person)) {
            return NO_SUCH;
        }
        long sum = 0;
        for (int year = 0; year < now; year++) {
            sum += flows.rentOf(person, year, known);
        }
        return sum;
    }

    public long fines(int castle) {
        if (!castles.has(castle)) {
            return NO_SUCH;
        }
        long sum = 0;
        for (int year = 0; year < now; year++) {
            sum += flows.fineOf(castle, year, now);
        }
        return sum;
    }

    public int dead(int person, int known) {
        if (!isPerson(person) || !isYear(known)) {
            return NONE;
        }
        deaths.settle(known);
        return deaths.standing[person];
    }

    public int count(int what) {
        switch (what) {
            case 0: return now;
            case 1: return springs.aqueducts;
            case 2: return castles.count;
            case 3: return nozzles.count;
            case 4: return persons;
            case 5: return deaths.count;
            case 6: return taps.count;
            case 7: return repairs.count;
            case 8: return book.count;
            case 9: return tape.count;
            case 10: return springs.count;
            default: return NONE;
        }
    }

    public int status() {
        return refusal;
    }

    /** No call that can be refused has an answer below 0 but its refusals. */
    private int told(int answer) {
        refusal = Math.min(answer, 0);
        return answer;
    }

    private boolean isPerson(int person) {
        return isWithin(person, 0, persons - 1);
    }

    private boolean isSource(int from) {
        if (from < FIRST_CASTLE_SOURCE) {
            return springs.hasAqueduct(from);
        }
        return castles.has(from - FIRST_CASTLE_SOURCE);
    }

    /** A year of a repair is as dry whichever year the repair began in, so each is looked at once. */
    private void countDryQuarters(int castle, int first, int last) {
        for (int year = first; year <= last; year++) {
            flows.prepare(year, now);
            flows.flow(castle);
            flows.weighQuarters();
            dryQuarters[year] = flows.countDry();
        }
    }

    private int leastDryYear(int years, int from, int to) {
        int bestYear = from;
        int least = sumDry(from, years);
        for (int year = from + 1; year <= to; year++) {
            int sum = sumDry(year, years);
            if (sum < least) {
                least = sum;
                bestYear = year;
            }
        }
        return bestYear;
    }

    private int sumDry(int first, int years) {
        int sum = 0;
        for (int i = 0; i < years; i++) {
            sum += dryQuarters[first + i];
        }
        return sum;
    }

    private static boolean isWithin(int number, int least, int most) {
        return number >= least && number <= most;
    }

    private static boolean isYear(int year) {
        return isWithin(year, 0, LAST_YEAR);
    }

    private static boolean areYears(int first, int last) {
        return isYear(first) && isYear(last) && first <= last;
    }

    private static boolean isQuarter(int quarter) {
        return isWithin(quarter, 0, QUARTERS - 1);
    }

    /** The bytes that are fed and not yet made laws. */
    private static final class Tape {
        final byte[] bytes = new byte[TAPE_BYTES];
        int count;

        boolean hasRoom(int more) {
            return count + more <= TAPE_BYTES;
        }

        void write(int number) {
            if (!hasRoom(4)) {
                return;
            }
            for (int shift = 24; shift >= 0; shift -= 8) {
                bytes[count] = (byte) (number >> shift);
                count++;
            }
        }

        int byteAt(int place) {
            return place >= 0 && place < count ? bytes[place] & 255 : NONE;
        }
    }

    /** Laws in the order of their text, and what of them counts in one year. */
    private static final class LawBook {
        final int[] from = new int[LAWS];
        final int[] to = new int[LAWS];
        final int[] kind = new int[LAWS];
        final int[] value = new int[LAWS];
        final int[] counts = new int[COUNTED];
        int count;

        void clear() {
            count = 0;
        }

        void add(int first, int last, int lawKind, int lawValue) {
            if (count >= LAWS) {
                return;
            }
            from[count] = first;
            to[count] = last;
            kind[count] = lawKind;
            value[count] = lawValue;
            count++;
        }

        void copyFrom(LawBook other) {
            clear();
            for (int i = 0; i < other.count; i++) {
                add(other.from[i], other.to[i], other.kind[i], other.value[i]);
            }
        }

        /** Later laws write over earlier ones, so that the last one in force counts. */
        void settle(int year) {
            for (int i = 0; i < COUNTED; i++) {
                counts[i] = 0;
            }
            counts[MOST] = NONE;
            for (int i = 0; i < count; i++) {
                if (!isWithin(year, from[i], to[i])) {
                    continue;
                }
                if (kind[i] == CLOSE) {
                    counts[CLOSE + value[i]] = 1;
                } else {
                    counts[kind[i]] = value[i];
                }
            }
        }

        boolean isAboveMost(int size) {
            return counts[MOST] != NONE && size > counts[MOST];
        }

        boolean isClosed(int rank) {
            return counts[CLOSE + rank] != 0;
        }
    }

    /** Reads the tape, token by token, into a draft of laws. */
    private static final class LawReader {
        final Tape tape;
        final LawBook draft = new LawBook();
        int start;
        int stop;
        int faultPlace = NONE;

        LawReader(Tape tape) {
            this.tape = tape;
        }

        boolean read() {
            faultPlace = NONE;
            draft.clear();
            stop = 0;
            step();
            if (isAtEnd()) {
                // Blanks are a text without laws; a tape without a byte is no text.
                return tape.count > 0 || cannotGoOn();
            }
            for (int i = 0; i < LAWS; i++) {
                if (!readLaw()) {
                    return cannotGoOn();
                }
                if (isAtEnd()) {
                    return true;
                }
                if (tape.byteAt(start) != ';') {
                    return cannotGoOn();
                }
                step();
            }
            return cannotGoOn();
        }

        boolean cannotGoOn() {
            faultPlace = start;
            return false;
        }

        /** Takes no token that can't go on, so that a fault is where it stops. */
        boolean readLaw() {
            if (!takeWord("from")) {
                return false;
            }
            int first = takeNumber(0, LAST_YEAR);
            if (first == NONE) {
                return false;
            }
            int last = takeWord("to") ? takeNumber(first, LAST_YEAR) : LAST_YEAR;
            if (last == NONE) {
                return false;
            }
            int kind = takeKind();
            if (kind == NONE) {
                return false;
            }
            int value = kind == FIRST ? takeRankName() : takeNumber(0, mostOf(kind));
            if (value == NONE) {
                return false;
            }
            draft.add(first, last, kind, value);
            return true;
        }

        int takeKind() {
            if (takeWord("first")) {
                return FIRST;
            }
            if (takeWord("heirs")) {
                return HEIRS;
            }
            if (takeWord("rent")) {
                return RENT;
            }
            if (takeWord("fine")) {
                return FINE;
            }
            if (takeWord("most")) {
                return MOST;
            }
            return takeWord("close") ? CLOSE : NONE;
        }

        int takeRankName() {
            if (takeWord("fountains")) {
                return 0;
            }
            if (takeWord("baths")) {
                return 1;
            }
            return takeWord("grants") ? GRANT : NONE;
        }

        boolean takeWord(String word) {
            if (stop - start != word.length()) {
                return false;
            }
            for (int i = 0; i < word.length(); i++) {
                if (tape.byteAt(start + i) != word.charAt(i)) {
                    return false;
                }
            }
            step();
            return true;
        }

        int takeNumber(int least, int most) {
            if (byteKind(tape.byteAt(start)) != DIGIT) {
                return NONE;
            }
            int number = 0;
            for (int i = start; i < stop; i++) {
                // Held just above all bounds, so that a long row of digits can't wrap around.
                number = Math.min(number * 10 + tape.byteAt(i) - '0', MOST_IN_LAW + 1);
            }
            if (!isWithin(number, least, most)) {
                return NONE;
            }
            step();
            return number;
        }

        boolean isAtEnd() {
            return start >= tape.count;
        }

        void step() {
            int place = stop;
            while (place < tape.count && tape.byteAt(place) == ' ') {
                place++;
            }
            start = place;
            int kind = byteKind(tape.byteAt(place));
            if (place < tape.count) {
                place++;
            }
            while (kind != OTHER && place < tape.count && byteKind(tape.byteAt(place)) == kind) {
                place++;
            }
            stop = place;
        }

        static int mostOf(int kind) {
            return kind == CLOSE ? RANKS - 1 : MOST_IN_LAW;
        }

        static int byteKind(int b) {
            if (b >= 'a' && b <= 'z') {
                return LETTER;
            }
            return b >= '0' && b <= '9' ? DIGIT : OTHER;
        }
    }

    /** Deaths in the order in which they were told. */
    private static final class Deaths {
        final int[] person = new int[DEATHS];
        final int[] year = new int[DEATHS];
        final int[] known = new int[DEATHS];
        final int[] standing = new int[PERSONS];
        int count;

        int add(int who, int when, int knownFrom) {
            if (count >= DEATHS) {
                return NO_ROOM;
            }
            person[count] = who;
            year[count] = when;
            known[count] = knownFrom;
            count++;
            return count;
        }

        /** Later deaths write over earlier ones, so that the one told last stands. */
        void settle(int knownBy) {
            for (int i = 0; i < PERSONS; i++) {
                standing[i] = NONE;
            }
            for (int i = 0; i < count; i++) {
                if (known[i] <= knownBy) {
                    standing[person[i]] = year[i];
                }
            }
        }

        /** Whether a year is not above that of the person's death and so many more, if there is one. */
        boolean isWithinLife(int who, int inYear, int more) {
            return standing[who] == NONE || inYear <= standing[who] + more;
        }
    }

    /** Aqueducts, and the years in which they yield something else than usual. */
    private static final class Springs {
        final int[] usual = new int[AQUEDUCTS];
        final int[] aqueduct = new int[SPRINGS];
        final int[] year = new int[SPRINGS];
        final int[] amount = new int[SPRINGS];
        final int[] left = new int[AQUEDUCTS];
        int aqueducts;
        int count;

        boolean hasAqueduct(int number) {
            return isWithin(number, 0, aqueducts - 1);
        }

        int addAqueduct(int water) {
            if (aqueducts >= AQUEDUCTS) {
                return NO_ROOM;
            }
            usual[aqueducts] = water;
            aqueducts++;
            return aqueducts - 1;
        }

        int change(int number, int when, int water) {
            int place = placeOf(number, when);
            if (place >= SPRINGS) {
                return NO_ROOM;
            }
            aqueduct[place] = number;
            year[place] = when;
            amount[place] = water;
            count = Math.max(count, place + 1);
            return 0;
        }

        /** Behind the last one, if that year of the aqueduct has not been told. */
        int placeOf(int number, int when) {
            for (int i = 0; i < count; i++) {
                if (aqueduct[i] == number && year[i] == when) {
                    return i;
                }
            }
            return count;
        }

        void settle(int when) {
            for (int i = 0; i < aqueducts; i++) {
                left[i] = usual[i];
            }
            for (int i = 0; i < count; i++) {
                if (year[i] == when) {
                    left[aqueduct[i]] = amount[i];
                }
            }
        }

        int draw(int number, int most) {
            int drawn = Math.min(left[number], most);
            left[number] -= drawn;
            return drawn;
        }
    }

    /** Castles and their pipes. */
    private static final class Castles {
        final int[] from = new int[CASTLES];
        final int[] carries = new int[CASTLES];
        final int[] loss = new int[CASTLES];
        final Groups fedBy = new Groups(CASTLES);
        int count;

        boolean has(int castle) {
            return isWithin(castle, 0, count - 1);
        }

        int build(int source, int most, int thousandths) {
            if (count >= CASTLES) {
                return NO_ROOM;
            }
            from[count] = source;
            carries[count] = most;
            loss[count] = thousandths;
            if (source >= FIRST_CASTLE_SOURCE) {
                fedBy.put(source - FIRST_CASTLE_SOURCE, count);
            }
            count++;
            return count - 1;
        }
    }

    /** Nozzles, with the years in which they are open. */
    private static final class Nozzles {
        final int[] size = new int[NOZZLES];
        final int[] rank = new int[NOZZLES];
        final int[] of = new int[NOZZLES];
        final int[] openFrom = new int[NOZZLES];
        final int[] openTo = new int[NOZZLES];
        final Groups atCastle = new Groups(NOZZLES);
        int count;

        boolean has(int nozzle) {
            return isWithin(nozzle, 0, count - 1);
        }

        int stamp(int castle, int itsSize, int itsRank, int whose, int year) {
            if (count >= NOZZLES) {
                return NO_ROOM;
            }
            size[count] = itsSize;
            rank[count] = itsRank;
            of[count] = whose;
            openFrom[count] = year;
            openTo[count] = LAST_YEAR;
            atCastle.put(castle, count);
            count++;
            return count - 1;
        }

        /** A second shutting comes no earlier than the first, which thus stays as it was. */
        void close(int nozzle, int year) {
            openTo[nozzle] = Math.min(openTo[nozzle], year - 1);
        }

        boolean isOpen(int nozzle, int year) {
            return isWithin(year, openFrom[nozzle], openTo[nozzle]);
        }

        boolean isGrantOf(int nozzle, int person) {
            return rank[nozzle] == GRANT && of[nozzle] == person;
        }
    }

    /** Taps or repairs: on the pipe of a castle, from a year to a year. */
    private static final class Spans {
        final int[] amount;
        final int[] first;
        final int[] last;
        final Groups onPipe;
        int count;

        Spans(int most) {
            amount = new int[most];
            first = new int[most];
            last = new int[most];
            onPipe = new Groups(most);
        }

        int add(int castle, int water, int begins, int ends) {
            if (count >= amount.length) {
                return NO_ROOM;
            }
            amount[count] = water;
            first[count] = begins;
            last[count] = ends;
            onPipe.put(castle, count);
            count++;
            return count;
        }

        boolean isIn(int number, int year) {
            return isWithin(year, first[number], last[number]);
        }

        boolean hasAny(int castle, int year) {
            for (int i = 0; i < onPipe.sizes[castle]; i++) {
                if (isIn(onPipe.member(castle, i), year)) {
                    return true;
                }
            }
            return false;
        }

        /** What those of the year take of the water, each as far as there is. */
        int take(int castle, int year, int water) {
            int left = water;
            for (int i = 0; i < onPipe.sizes[castle]; i++) {
                int number = onPipe.member(castle, i);
                if (isIn(number, year)) {
                    left -= Math.min(left, amount[number]);
                }
            }
            return water - left;
        }
    }

    /** For each castle a row of numbers, in the order in which they came. */
    private static final class Groups {
        final int width;
        final int[] members;
        final int[] sizes = new int[CASTLES];

        Groups(int width) {
            this.width = width;
            members = new int[CASTLES * width];
        }

        void put(int castle, int number) {
            if (!isWithin(castle, 0, CASTLES - 1) || sizes[castle] >= width) {
                return;
            }
            members[castle * width + sizes[castle]] = number;
            sizes[castle]++;
        }

        int member(int castle, int place) {
            return members[castle * width + place];
        }
    }

    /** Parts water among claims: to each its weight, if there is enough for all, else shares. */
    private static final class Shares {
        final int[] claimant = new int[NOZZLES];
        final int[] weight = new int[NOZZLES];
        final int[] share = new int[NOZZLES];
        int allWeights;
        int count;

        void clear() {
            allWeights = 0;
            count = 0;
        }

        /** What weighs nothing has no claim, not to one of what is left either. */
        void add(int who, int itsWeight) {
            if (itsWeight <= 0 || count >= NOZZLES) {
                return;
            }
            claimant[count] = who;
            weight[count] = itsWeight;
            allWeights += itsWeight;
            count++;
        }

        /** How much of the water the claims take together. */
        int part(int water) {
            if (allWeights <= water || allWeights <= 0) {
                for (int i = 0; i < count; i++) {
                    share[i] = weight[i];
                }
                return allWeights;
            }
            int left = water;
            for (int i = 0; i < count; i++) {
                share[i] = (int) ((long) water * weight[i] / allWeights);
                left -= share[i];
            }
            for (int i = 0; i < count && left > 0; i++) {
                share[i]++;
                left--;
            }
            return water - left;
        }
    }

    /** The flows of one year, as known in one year. */
    private static final class Flows {
        final LawBook book;
        final Deaths deaths;
        final Springs springs;
        final Castles castles;
        final Nozzles nozzles;
        final Spans taps;
        final Spans repairs;
        final Shares shares = new Shares();
        final int[] canCarry = new int[CASTLES];
        final int[][] amount = new int[AMOUNTS][CASTLES];
        final boolean[] served = new boolean[NOZZLES];
        final int[] got = new int[NOZZLES];
        final int[] quarterSize = new int[QUARTERS];
        final int[] quarterGot = new int[QUARTERS];
        int year;

        Flows(LawBook book, Deaths deaths, Springs springs, Castles castles, Nozzles nozzles,
                Spans taps, Spans repairs) {
            this.book = book;
            this.deaths = deaths;
            this.springs = springs;
            this.castles = castles;
            this.nozzles = nozzles;
            this.taps = taps;
            this.repairs = repairs;
        }

        void run(int ofYear, int known) {
            prepare(ofYear, known);
            flow(NONE);
        }

        /** What isLiving and flow need to know of the laws and the deaths. */
        void prepare(int ofYear, int known) {
            year = ofYear;
            book.settle(ofYear);
            deaths.settle(known);
        }

        /** The castle "mended" has its pipe in a repair that is only thought of; NONE without. */
        void flow(int mended) {
            springs.settle(year);
            chooseServed();
            openPipes(mended);
            for (int c = 0; c < castles.count; c++) {
                bringIn(c);
                partToNozzles(c);
                leadOn(c);
            }
        }

        void chooseServed() {
            for (int n = 0; n < nozzles.count; n++) {
                served[n] = nozzles.rank[n] == GRANT ? isLiving(n) : nozzles.isOpen(n, year);
                got[n] = 0;
            }
        }

        boolean isLiving(int nozzle) {
            return nozzles.isOpen(nozzle, year)
                    && !book.isAboveMost(nozzles.size[nozzle])
                    && deaths.isWithinLife(nozzles.of[nozzle], year, book.counts[HEIRS]);
        }

        void openPipes(int mended) {
            for (int c = 0; c < castles.count; c++) {
                boolean isShut = c == mended || repairs.hasAny(c, year);
                canCarry[c] = isShut ? 0 : castles.carries[c];
                amount[INTO_PIPE][c] = 0;
            }
        }

        /** A castle that feeds another one has a lower number, so it has led on its water by now. */
        void bringIn(int castle) {
            if (castles.from[castle] < FIRST_CASTLE_SOURCE) {
                amount[INTO_PIPE][castle] = springs.draw(castles.from[castle], canCarry[castle]);
            }
            int water = amount[INTO_PIPE][castle];
            int tapped = taps.take(castle, year, water);
            int lost = lossOf(castle, water - tapped);
            amount[TAPPED][castle] = tapped;
            amount[LOST][castle] = lost;
            amount[IN][castle] = water - tapped - lost;
        }

        int lossOf(int castle, int water) {
            return water * castles.loss[castle] / THOUSAND;
        }

        void partToNozzles(int castle) {
            int first = book.counts[FIRST];
            int left = amount[IN][castle];
            left -= partToRank(castle, first, left);
            for (int rank = 0; rank < RANKS; rank++) {
                if (rank != first) {
                    left -= partToRank(castle, rank, left);
                }
            }
            amount[GIVEN][castle] = amount[IN][castle] - left;
        }

        int partToRank(int castle, int rank, int water) {
            if (book.isClosed(rank)) {
                return 0;
            }
            shares.clear();
            for (int i = 0; i < nozzles.atCastle.sizes[castle]; i++) {
                int nozzle = nozzles.atCastle.member(castle, i);
                if (nozzles.rank[nozzle] == rank && served[nozzle]) {
                    shares.add(nozzle, nozzles.size[nozzle]);
                }
            }
            int taken = shares.part(water);
            for (int i = 0; i < shares.count; i++) {
                got[shares.claimant[i]] = shares.share[i];
            }
            return taken;
        }

        void leadOn(int castle) {
            shares.clear();
            for (int i = 0; i < castles.fedBy.sizes[castle]; i++) {
                int fed = castles.fedBy.member(castle, i);
                shares.add(fed, canCarry[fed]);
            }
            int left = amount[IN][castle] - amount[GIVEN][castle];
            int taken = shares.part(left);
            for (int i = 0; i < shares.count; i++) {
                amount[INTO_PIPE][shares.claimant[i]] = shares.share[i];
            }
            amount[ON][castle] = taken;
            amount[WASTE][castle] = left - taken;
        }

        void weighQuarters() {
            for (int q = 0; q < QUARTERS; q++) {
                quarterSize[q] = 0;
                quarterGot[q] = 0;
            }
            for (int n = 0; n < nozzles.count; n++) {
                if (nozzles.rank[n] != GRANT && nozzles.isOpen(n, year)) {
                    quarterSize[nozzles.of[n]] += nozzles.size[n];
                    quarterGot[nozzles.of[n]] += got[n];
                }
            }
        }

        boolean isDry(int quarter) {
            return 2 * quarterGot[quarter] < quarterSize[quarter];
        }

        int countDry() {
            int sum = 0;
            for (int q = 0; q < QUARTERS; q++) {
                if (isDry(q)) {
                    sum++;
                }
            }
            return sum;
        }

        /**
         * More water never comes out as less behind loss, so the most that comes out as IN is
         * sought by halving; what is left behind the taps is known to come out so.
         */
        int leastMissing(int castle) {
            int water = amount[INTO_PIPE][castle];
            int low = water - amount[TAPPED][castle];
            int high = water;
            for (int halving = 0; halving < 32 && low < high; halving++) {
                int middle = high - (high - low) / 2;
                if (middle - lossOf(castle, middle) <= amount[IN][castle]) {
                    low = middle;
                } else {
                    high = middle - 1;
                }
            }
            return water - low;
        }

        long rentOf(int person, int ofYear, int known) {
            prepare(ofYear, known);
            if (book.counts[RENT] == 0 || !deaths.isWithinLife(person, ofYear, 0)) {
                return 0;
            }
            flow(NONE);
            long water = 0;
            for (int n = 0; n < nozzles.count; n++) {
                if (nozzles.isGrantOf(n, person)) {
                    water += got[n];
                }
            }
            return book.counts[RENT] * water;
        }

        long fineOf(int castle, int ofYear, int known) {
            prepare(ofYear, known);
            if (book.counts[FINE] == 0) {
                return 0;
            }
            flow(NONE);
            return (long) book.counts[FINE] * amount[TAPPED][castle];
        }
    }
}
