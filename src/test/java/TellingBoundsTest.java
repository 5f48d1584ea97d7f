/** The bounds of what is told to the office: Terms I, promises 1 to 11. */
public final class TellingBoundsTest extends Check {
    private static final int IN = 0;
    private static final int INTO_PIPE = 1;
    private static final int TAPPED = 2;
    private static final int LOST = 3;

    public static void main(String[] args) {
        runSentences(TellingBoundsTest.class);
    }

    // Promise 1

    @Sentence("Promise 1: Year 0; nothing is there.")
    static void p01CountsOfANewOffice() {
        WaterOffice x = new WaterOffice();
        for (int what = 0; what <= 10; what++) {
            due("count(" + what + ")", x.count(what), 0);
        }
    }

    @Sentence("Promise 1: nothing is there.")
    static void p01NumbersOfANewOfficeNameNothing() {
        WaterOffice x = new WaterOffice();
        due("lives", x.lives(0, 0, 0), NONE);
        due("gets", x.gets(0, 0, 0), NONE);
        due("at", x.at(0, 0, 0, 0), NONE);
        due("found", x.found(0, 0), NONE);
        due("dead", x.dead(0, 0), NONE);
        due("best", x.best(0, 1, 0, 0), -2);
        due("rent", x.rent(0, 0), -2);
        due("fines", x.fines(0), -2);
        due("shut", x.shut(0), -2);
        due("tap", x.tap(0, 1, 0, 0), -2);
        due("repair", x.repair(0, 0, 0), -2);
        due("death", x.death(0, 0, 0), -2);
        due("spring", x.spring(0, 0, 0), -2);
        due("nozzle", x.nozzle(0, 1, 0, 0), -2);
        due("castle", x.castle(0, 1, 0), -2);
        due("end", x.end(1), NONE);
    }

    @Sentence("Promise 1: nothing is there.")
    static void p01NoLawAndNoDryQuarterInANewOffice() {
        WaterOffice x = new WaterOffice();
        for (int year = 0; year <= 200; year += 100) {
            for (int what = 0; what <= 7; what++) {
                due("law(" + year + ", " + what + ")", x.law(year, what), what == 4 ? NONE : 0);
            }
            for (int quarter = 0; quarter <= 7; quarter++) {
                due("dry(" + quarter + ", " + year + ", 0)", x.dry(quarter, year, 0), 0);
            }
        }
        due("fault()", x.fault(), NONE);
        due("status()", x.status(), 0);
    }

    @Sentence("Promise 1: nothing is there.")
    static void p01OneOfficeKnowsNothingOfAnother() {
        WaterOffice other = office(1000);
        other.nozzle(0, 5, 0, 0);
        other.death(0, 1, 1);
        other.tap(0, 1, 0, 0);
        other.repair(0, 1, 1);
        other.spring(0, 1, 1);
        other.go(3);
        laws(other, "from 0 rent 1");
        laws(other, "x");
        write(other, "abc");
        WaterOffice x = new WaterOffice();
        for (int what = 0; what <= 10; what++) {
            due("count(" + what + ")", x.count(what), 0);
        }
        due("fault()", x.fault(), NONE);
        due("status()", x.status(), 0);
    }

    // Promise 2

    @Sentence("Terms I: AQUEDUCTS 0 .. 3 (4 at most); Promise 2: An AQUEDUCT: its number.")
    static void p02FourAqueductsAtMost() {
        WaterOffice x = new WaterOffice();
        for (int i = 0; i < 4; i++) {
            due("aqueduct", x.aqueduct(10 + i), i);
        }
        due("a fifth", x.aqueduct(14), -5);
        due("count(1)", x.count(1), 4);
        for (int i = 0; i < 4; i++) {
            x.castle(i, 100, 0);
            due("yield of " + i, x.at(i, 0, 0, IN), 10 + i);
        }
        due("no such", x.castle(4, 100, 0), -2);
    }

    @Sentence("Terms I: a YIELD (0 .. 100,000)")
    static void p02LeastAndMostYield() {
        WaterOffice x = new WaterOffice();
        due("0", x.aqueduct(0), 0);
        due("100,000", x.aqueduct(100000), 1);
        x.castle(0, 100000, 0);
        x.castle(1, 100000, 0);
        due("nothing comes", x.at(0, 0, 0, INTO_PIPE), 0);
        due("all comes", x.at(1, 0, 0, INTO_PIPE), 100000);
    }

    @Sentence("Promise 2: -1")
    static void p02YieldThatCantBe() {
        WaterOffice x = new WaterOffice();
        for (int amount : new int[] {-1, 100001, BIG, SMALL}) {
            due("aqueduct(" + amount + ")", x.aqueduct(amount), -1);
            due("status()", x.status(), -1);
            due("count(1)", x.count(1), 0);
        }
    }

    @Sentence("Terms I: REFUSED by .. The first of these in that order; Promise 2: -1; -5.")
    static void p02NumberAheadOfRoom() {
        WaterOffice x = new WaterOffice();
        for (int i = 0; i < 4; i++) {
            x.aqueduct(1);
        }
        due("too little", x.aqueduct(-1), -1);
        due("too much", x.aqueduct(100001), -1);
    }

    // Promise 3

    @Sentence("Terms I: YEARS 0 .. 200; another one for any YEAR (told by year)")
    static void p03FirstAndLastYear() {
        WaterOffice x = office(50);
        due("year 0", x.spring(0, 0, 7), 0);
        due("year 200", x.spring(0, 200, 8), 0);
        due("in 0", x.at(0, 0, 0, IN), 7);
        due("in 1", x.at(0, 1, 0, IN), 50);
        due("in 199", x.at(0, 199, 0, IN), 50);
        due("in 200", x.at(0, 200, 0, IN), 8);
        due("count(10)", x.count(10), 2);
    }

    @Sentence("Terms I: another one for any YEAR (told by year)")
    static void p03YearThatHasGoneBy() {
        WaterOffice x = office(50);
        x.go(9);
        due("a year ago", x.spring(0, 8, 7), 0);
        due("in 8", x.at(0, 8, 0, IN), 7);
        due("in 9", x.at(0, 9, 0, IN), 50);
    }

    @Sentence("Promise 3: YIELD of an AQUEDUCT in a YEAR becomes another one")
    static void p03YieldOfThatAqueductAlone() {
        WaterOffice x = office(50);
        x.aqueduct(60);
        x.castle(1, 100000, 0);
        x.spring(1, 4, 3);
        due("the other one", x.at(0, 4, 0, IN), 50);
        due("that one", x.at(1, 4, 0, IN), 3);
    }

    @Sentence("Promise 3: -1 (YEARS 0 .. 200)")
    static void p03YearThatCantBe() {
        WaterOffice x = office(50);
        for (int year : NO_YEARS) {
            due("spring in " + year, x.spring(0, year, 7), -1);
        }
        due("count(10)", x.count(10), 0);
        due("in 0", x.at(0, 0, 0, IN), 50);
        due("in 200", x.at(0, 200, 0, IN), 50);
    }

    @Sentence("Terms I: YIELD (0 .. 100,000), and another one for any YEAR")
    static void p03LeastAndMostAmount() {
        WaterOffice x = office(50);
        due("0", x.spring(0, 3, 0), 0);
        due("100,000", x.spring(0, 4, 100000), 0);
        due("in 3", x.at(0, 3, 0, IN), 0);
        due("in 4", x.at(0, 4, 0, IN), 100000);
    }

    @Sentence("Promise 3: -1 (YIELD 0 .. 100,000)")
    static void p03AmountThatCantBe() {
        WaterOffice x = office(50);
        x.spring(0, 5, 9);
        for (int amount : new int[] {-1, 100001, BIG, SMALL}) {
            due("new one of " + amount, x.spring(0, 4, amount), -1);
            due("told again with " + amount, x.spring(0, 5, amount), -1);
        }
        due("count(10)", x.count(10), 1);
        due("in 4", x.at(0, 4, 0, IN), 50);
        due("in 5", x.at(0, 5, 0, IN), 9);
    }

    @Sentence("Promise 3: -2")
    static void p03NoSuchAqueduct() {
        WaterOffice x = office(50);
        for (int aqueduct : new int[] {-1, 1, 4, 100, BIG, SMALL}) {
            due("spring(" + aqueduct + ", ..)", x.spring(aqueduct, 3, 7), -2);
        }
        due("count(10)", x.count(10), 0);
        due("in 3", x.at(0, 3, 0, IN), 50);
    }

    @Sentence("Promise 3: -5: 60 such there are")
    static void p03SixtySprings() {
        WaterOffice x = office(50);
        x.aqueduct(60);
        x.castle(1, 100000, 0);
        for (int i = 0; i < 60; i++) {
            due("spring " + i, x.spring(i % 2, i / 2, 1000 + i), 0);
        }
        due("one more", x.spring(0, 30, 7), -5);
        due("one more of the other", x.spring(1, 200, 7), -5);
        due("count(10)", x.count(10), 60);
        due("the last one", x.at(1, 29, 0, IN), 1059);
        due("one that found no room", x.at(0, 30, 0, IN), 50);
        due("one that found no room", x.at(1, 200, 0, IN), 60);
    }

    @Sentence("Promise 3: (of one that is told again the amount is changed)")
    static void p03ToldAgainIsChanged() {
        WaterOffice x = office(50);
        x.spring(0, 3, 7);
        x.spring(0, 4, 8);
        due("told again", x.spring(0, 3, 9), 0);
        due("count(10)", x.count(10), 2);
        due("in 3", x.at(0, 3, 0, IN), 9);
        due("in 4", x.at(0, 4, 0, IN), 8);
    }

    @Sentence("Promise 3: -5: 60 such there are (of one that is told again the amount is changed)")
    static void p03ToldAgainNeedsNoRoom() {
        WaterOffice x = office(50);
        for (int i = 0; i < 60; i++) {
            x.spring(0, i, 1000);
        }
        due("the first again", x.spring(0, 0, 7), 0);
        due("the last again", x.spring(0, 59, 8), 0);
        due("status()", x.status(), 0);
        due("count(10)", x.count(10), 60);
        due("in 0", x.at(0, 0, 0, IN), 7);
        due("in 59", x.at(0, 59, 0, IN), 8);
    }

    @Sentence("Terms I: REFUSED by .. The first of these in that order; Promise 3: -1; -2; -5")
    static void p03OrderOfRefusals() {
        WaterOffice x = office(50);
        due("year and aqueduct", x.spring(1, 201, 7), -1);
        due("amount and aqueduct", x.spring(1, 3, -1), -1);
        for (int i = 0; i < 60; i++) {
            x.spring(0, i, 1000);
        }
        due("year and room", x.spring(0, -1, 7), -1);
        due("amount and room", x.spring(0, 100, 100001), -1);
        due("aqueduct and room", x.spring(1, 100, 7), -2);
    }

    // Promise 4

    @Sentence("Terms I: CASTLES 0 .. 11 (12 at most); Promise 4: its number")
    static void p04TwelveCastlesAtMost() {
        WaterOffice x = new WaterOffice();
        x.aqueduct(1000);
        for (int i = 0; i < 12; i++) {
            due("castle", x.castle(0, 10 + i, 0), i);
        }
        due("a thirteenth by the aqueduct", x.castle(0, 1, 0), -5);
        due("a thirteenth by the last one", x.castle(111, 1, 0), -5);
        due("count(2)", x.count(2), 12);
        due("the last one", x.at(11, 0, 0, IN), 21);
        due("no such", x.at(12, 0, 0, IN), NONE);
    }

    @Sentence("Terms I: what it can carry (1 .. 100,000)")
    static void p04LeastAndMostCarried() {
        WaterOffice x = new WaterOffice();
        x.aqueduct(100000);
        x.aqueduct(100000);
        due("1", x.castle(0, 1, 0), 0);
        due("100,000", x.castle(1, 100000, 0), 1);
        due("1 comes", x.at(0, 0, 0, INTO_PIPE), 1);
        due("all comes", x.at(1, 0, 0, INTO_PIPE), 100000);
    }

    @Sentence("Promise 4: -1 (what it can carry)")
    static void p04CarriedThatCantBe() {
        WaterOffice x = office(50);
        for (int carries : new int[] {0, -1, 100001, BIG, SMALL}) {
            due("castle(0, " + carries + ", 0)", x.castle(0, carries, 0), -1);
            due("castle(100, " + carries + ", 0)", x.castle(100, carries, 0), -1);
        }
        due("count(2)", x.count(2), 1);
    }

    @Sentence("Terms I: its LOSS (thousandths, 0 .. 1000)")
    static void p04LeastAndMostLoss() {
        WaterOffice x = new WaterOffice();
        x.aqueduct(100000);
        due("0", x.castle(0, 30000, 0), 0);
        due("1", x.castle(0, 30000, 1), 1);
        due("1000", x.castle(0, 30000, 1000), 2);
        due("nothing is lost", x.at(0, 0, 0, LOST), 0);
        due("a thousandth is lost", x.at(1, 0, 0, LOST), 30);
        due("all is lost", x.at(2, 0, 0, LOST), 30000);
        due("nothing comes in", x.at(2, 0, 0, IN), 0);
    }

    @Sentence("Promise 4: -1 (its LOSS)")
    static void p04LossThatCantBe() {
        WaterOffice x = office(50);
        for (int loss : new int[] {-1, 1001, BIG, SMALL}) {
            due("castle(0, 1, " + loss + ")", x.castle(0, 1, loss), -1);
            due("castle(100, 1, " + loss + ")", x.castle(100, 1, loss), -1);
        }
        due("count(2)", x.count(2), 1);
    }

    @Sentence("Promise 4: fed by an AQUEDUCT (from 0 on)")
    static void p04FirstAndLastAqueduct() {
        WaterOffice x = new WaterOffice();
        for (int i = 0; i < 4; i++) {
            x.aqueduct(10 + i);
        }
        due("by the last", x.castle(3, 100, 0), 0);
        due("by the first", x.castle(0, 100, 0), 1);
        due("water of the last", x.at(0, 0, 0, IN), 13);
        due("water of the first", x.at(1, 0, 0, IN), 10);
    }

    @Sentence("Promise 4: -2 (an AQUEDUCT)")
    static void p04NoSuchAqueduct() {
        WaterOffice x = office(50);
        for (int from : new int[] {-1, 1, 3, 4, 99, -100, SMALL, SMALL + 100}) {
            due("castle(" + from + ", ..)", x.castle(from, 10, 0), -2);
        }
        due("count(2)", x.count(2), 1);
    }

    @Sentence("Promise 4: or a CASTLE (100 and its number)")
    static void p04FirstAndLastCastle() {
        WaterOffice x = new WaterOffice();
        x.aqueduct(1000);
        x.castle(0, 1000, 0);
        for (int i = 1; i < 12; i++) {
            due("castle", x.castle(99 + i, 1000 - i, 0), i);
        }
        due("at the end of the row", x.at(11, 0, 0, IN), 989);
        due("on from the last but one", x.at(10, 0, 0, 5), 989);
    }

    @Sentence("Terms I: or by a lower CASTLE; Promise 4: -2 (a CASTLE)")
    static void p04NoSuchCastle() {
        WaterOffice x = new WaterOffice();
        x.aqueduct(50);
        due("no castle yet", x.castle(100, 10, 0), -2);
        x.castle(0, 100, 0);
        for (int from : new int[] {101, 102, 111, 112, 200, BIG, BIG - 100}) {
            due("castle(" + from + ", ..)", x.castle(from, 10, 0), -2);
        }
        due("count(2)", x.count(2), 1);
    }

    @Sentence("Terms I: REFUSED by .. The first of these in that order; Promise 4: -1; -2; -5.")
    static void p04OrderOfRefusals() {
        WaterOffice x = office(50);
        due("carries and from", x.castle(1, 0, 0), -1);
        due("loss and from", x.castle(101, 1, 1001), -1);
        for (int i = 1; i < 12; i++) {
            x.castle(0, 1, 0);
        }
        due("carries and room", x.castle(0, 100001, 0), -1);
        due("loss and room", x.castle(0, 1, -1), -1);
        due("aqueduct and room", x.castle(1, 1, 0), -2);
        due("castle and room", x.castle(112, 1, 0), -2);
    }

    // Promise 5

    @Sentence("Terms I: PERSONS 0 .. 39 (40 at most); Promise 5: the number. -5.")
    static void p05FortyPersonsAtMost() {
        WaterOffice x = new WaterOffice();
        for (int i = 0; i < 40; i++) {
            due("person", x.person(), i);
        }
        due("one more", x.person(), -5);
        due("status()", x.status(), -5);
        due("count(4)", x.count(4), 40);
        due("death of the last one", x.death(39, 1, 1), 1);
        due("no such", x.death(40, 1, 1), -2);
    }

    // Promise 6

    @Sentence("Terms I: YEARS 0 .. 200; DEATHS: the YEAR of death, the YEAR in which it became known")
    static void p06FirstAndLastYears() {
        WaterOffice x = office(50);
        x.person();
        due("first years", x.death(0, 0, 0), 1);
        due("last years", x.death(1, 200, 200), 2);
        due("dead in 0", x.dead(0, 0), 0);
        due("not yet known", x.dead(1, 199), NONE);
        due("dead in 200", x.dead(1, 200), 200);
    }

    @Sentence("Promise 6: -1 (YEARS)")
    static void p06YearThatCantBe() {
        WaterOffice x = office(50);
        for (int year : NO_YEARS) {
            due("dead in " + year, x.death(0, year, 3), -1);
            due("known in " + year, x.death(0, 3, year), -1);
        }
        due("count(5)", x.count(5), 0);
        due("dead", x.dead(0, 200), NONE);
    }

    @Sentence("Promise 6: -2")
    static void p06NoSuchPerson() {
        WaterOffice x = office(50);
        for (int person : new int[] {-1, 1, 40, BIG, SMALL}) {
            due("death(" + person + ", ..)", x.death(person, 3, 3), -2);
        }
        due("count(5)", x.count(5), 0);
    }

    @Sentence("Terms I: DEATHS, 60 at most; Promise 6: how many there are. -5.")
    static void p06SixtyDeathsAtMost() {
        WaterOffice x = office(50);
        x.person();
        for (int i = 1; i <= 60; i++) {
            due("death", x.death(0, i, 5), i);
        }
        due("one more", x.death(0, 100, 5), -5);
        due("one more of another", x.death(1, 100, 5), -5);
        due("status()", x.status(), -5);
        due("count(5)", x.count(5), 60);
        due("the last one stands", x.dead(0, 5), 60);
        due("the other one lives", x.dead(1, 200), NONE);
    }

    @Sentence("Terms I: REFUSED by .. The first of these in that order; Promise 6: -1 (YEARS); -2; -5.")
    static void p06OrderOfRefusals() {
        WaterOffice x = office(50);
        due("year and person", x.death(1, 201, 0), -1);
        due("known and person", x.death(-1, 0, 201), -1);
        for (int i = 0; i < 60; i++) {
            x.death(0, 1, 1);
        }
        due("year and room", x.death(0, -1, 0), -1);
        due("known and room", x.death(0, 0, -1), -1);
        due("person and room", x.death(1, 0, 0), -2);
    }

    // Promise 7

    @Sentence("Terms I: NOZZLES 0 .. 79 (80 at most); Promise 7: its number. -5.")
    static void p07EightyNozzlesAtMost() {
        WaterOffice x = office(100);
        for (int i = 0; i < 80; i++) {
            due("nozzle", x.nozzle(0, 1, i % 3, 0), i);
        }
        for (int rank = 0; rank < 3; rank++) {
            due("one more of rank " + rank, x.nozzle(0, 1, rank, 0), -5);
        }
        due("status()", x.status(), -5);
        due("count(3)", x.count(3), 80);
        due("given", x.at(0, 0, 0, 4), 80);
        due("the last one", x.gets(79, 0, 0), 1);
        due("no such", x.gets(80, 0, 0), NONE);
    }

    @Sentence("Terms I: SIZE (1 .. 1000)")
    static void p07LeastAndMostSize() {
        WaterOffice x = office(100000);
        for (int rank = 0; rank < 3; rank++) {
            due("1", x.nozzle(0, 1, rank, 0), 2 * rank);
            due("1000", x.nozzle(0, 1000, rank, 0), 2 * rank + 1);
            due("gets 1", x.gets(2 * rank, 0, 0), 1);
            due("gets 1000", x.gets(2 * rank + 1, 0, 0), 1000);
        }
    }

    @Sentence("Promise 7: -1 (SIZE)")
    static void p07SizeThatCantBe() {
        WaterOffice x = office(100000);
        for (int size : new int[] {0, -1, 1001, BIG, SMALL}) {
            for (int rank = 0; rank < 3; rank++) {
                due("nozzle(0, " + size + ", " + rank + ", 0)", x.nozzle(0, size, rank, 0), -1);
            }
        }
        due("count(3)", x.count(3), 0);
    }

    @Sentence("Terms I: RANK 0 fountains, 1 baths, 2 grants; Promise 7: -1 (RANK)")
    static void p07RankThatCantBe() {
        WaterOffice x = office(100000);
        for (int rank : new int[] {-1, 3, BIG, SMALL}) {
            due("nozzle(0, 1, " + rank + ", 0)", x.nozzle(0, 1, rank, 0), -1);
        }
        due("count(3)", x.count(3), 0);
        due("fountain", x.nozzle(0, 1, 0, 0), 0);
        due("bath", x.nozzle(0, 1, 1, 0), 1);
        due("grant", x.nozzle(0, 1, 2, 0), 2);
        due("a fountain is no grant", x.lives(0, 0, 0), NONE);
        due("a bath is no grant", x.lives(1, 0, 0), NONE);
        due("a grant is one", x.lives(2, 0, 0), 1);
    }

    @Sentence("Terms I: of RANKS 0, 1 for a QUARTER 0 .. 7")
    static void p07FirstAndLastQuarter() {
        WaterOffice x = new WaterOffice();
        x.aqueduct(0);
        x.castle(0, 1, 0);
        due("fountain", x.nozzle(0, 1, 0, 0), 0);
        due("bath", x.nozzle(0, 1, 1, 7), 1);
        for (int quarter = 0; quarter <= 7; quarter++) {
            due("dry " + quarter, x.dry(quarter, 0, 0), quarter == 0 || quarter == 7 ? 1 : 0);
        }
    }

    @Sentence("Promise 7: -1 (a QUARTER)")
    static void p07QuarterThatCantBe() {
        WaterOffice x = office(100);
        for (int i = 1; i < 20; i++) {
            x.person();
        }
        for (int quarter : new int[] {-1, 8, 19, BIG, SMALL}) {
            due("fountain for " + quarter, x.nozzle(0, 1, 0, quarter), -1);
            due("bath for " + quarter, x.nozzle(0, 1, 1, quarter), -1);
        }
        due("count(3)", x.count(3), 0);
    }

    @Sentence("Terms I: of RANK 2 for a PERSON")
    static void p07LastPerson() {
        WaterOffice x = office(100);
        for (int i = 1; i < 40; i++) {
            x.person();
        }
        due("beyond all quarters", x.nozzle(0, 1, 2, 8), 0);
        due("the last one", x.nozzle(0, 1, 2, 39), 1);
        x.death(39, 0, 0);
        due("the last one is dead", x.lives(1, 1, 0), 0);
        due("the other lives", x.lives(0, 1, 0), 1);
    }

    @Sentence("Promise 7: -2 (PERSON)")
    static void p07NoSuchPerson() {
        WaterOffice x = office(100);
        for (int person : new int[] {-1, 1, 7, 40, BIG, SMALL}) {
            due("grant for " + person, x.nozzle(0, 1, 2, person), -2);
        }
        due("count(3)", x.count(3), 0);
    }

    @Sentence("Promise 7: -2 (CASTLE)")
    static void p07NoSuchCastle() {
        WaterOffice x = office(100);
        for (int castle : new int[] {-1, 1, 12, 100, BIG, SMALL}) {
            for (int rank = 0; rank < 3; rank++) {
                due("nozzle(" + castle + ", 1, " + rank + ", 0)", x.nozzle(castle, 1, rank, 0), -2);
            }
        }
        due("count(3)", x.count(3), 0);
    }

    @Sentence("Terms I: NOZZLES: at a CASTLE")
    static void p07LastCastle() {
        WaterOffice x = office(0);
        x.aqueduct(30);
        for (int i = 1; i < 11; i++) {
            x.castle(0, 1, 0);
        }
        x.castle(1, 100, 0);
        due("at the last", x.nozzle(11, 30, 0, 0), 0);
        due("at the first", x.nozzle(0, 30, 0, 0), 1);
        due("water there", x.gets(0, 0, 0), 30);
        due("no water there", x.gets(1, 0, 0), 0);
    }

    @Sentence("Promise 7: -3 a grant with more SIZE than \"most\"")
    static void p07GrantAboveMost() {
        WaterOffice x = office(100000);
        laws(x, "from 0 most 500");
        due("as large", x.nozzle(0, 500, 2, 0), 0);
        due("larger", x.nozzle(0, 501, 2, 0), -3);
        due("status()", x.status(), -3);
        due("the largest", x.nozzle(0, 1000, 2, 0), -3);
        due("count(3)", x.count(3), 1);
        laws(x, "from 0 most 0");
        due("the smallest, but none may be", x.nozzle(0, 1, 2, 0), -3);
        laws(x, "from 0 most 100000");
        due("the largest", x.nozzle(0, 1000, 2, 0), 1);
    }

    @Sentence("Promise 7: -3 a grant")
    static void p07OnlyGrantsAreBarred() {
        WaterOffice x = office(100000);
        laws(x, "from 0 most 0");
        due("fountain", x.nozzle(0, 1000, 0, 0), 0);
        due("bath", x.nozzle(0, 1000, 1, 0), 1);
        due("they get theirs", x.at(0, 0, 0, 4), 2000);
    }

    @Sentence("Promise 7: \"most\" of NOW (without: no bound)")
    static void p07MostOfNow() {
        WaterOffice x = office(100000);
        laws(x, "from 5 to 6 most 10");
        x.go(4);
        due("ahead of it", x.nozzle(0, 11, 2, 0), 0);
        x.go(1);
        due("first year of it", x.nozzle(0, 11, 2, 0), -3);
        x.go(1);
        due("last year of it", x.nozzle(0, 11, 2, 0), -3);
        x.go(1);
        due("behind it", x.nozzle(0, 1000, 2, 0), 1);
    }

    @Sentence("Promise 7: A NOZZLE, stamped NOW")
    static void p07StampedNow() {
        WaterOffice x = goTo(office(100), 200);
        due("in the last year", x.nozzle(0, 9, 0, 0), 0);
        due("ahead", x.gets(0, 199, 0), 0);
        due("then", x.gets(0, 200, 0), 9);
    }

    @Sentence("Terms I: REFUSED by .. The first of these in that order; Promise 7: -1; -2; -3; -5.")
    static void p07OrderOfRefusals() {
        WaterOffice x = office(100);
        laws(x, "from 0 most 10");
        due("size and castle", x.nozzle(1, 0, 0, 0), -1);
        due("rank and castle", x.nozzle(1, 1, 3, 0), -1);
        due("quarter and castle", x.nozzle(1, 1, 1, 8), -1);
        due("size and person", x.nozzle(0, 1001, 2, 1), -1);
        due("size and most", x.nozzle(0, 1001, 2, 0), -1);
        due("castle and most", x.nozzle(1, 11, 2, 0), -2);
        due("person and most", x.nozzle(0, 11, 2, 1), -2);
        for (int i = 0; i < 80; i++) {
            x.nozzle(0, 1, 0, 0);
        }
        due("size and room", x.nozzle(0, 0, 0, 0), -1);
        due("rank and room", x.nozzle(0, 1, -1, 0), -1);
        due("quarter and room", x.nozzle(0, 1, 0, 8), -1);
        due("castle and room", x.nozzle(1, 1, 0, 0), -2);
        due("person and room", x.nozzle(0, 1, 2, 1), -2);
        due("most and room", x.nozzle(0, 11, 2, 0), -3);
        due("room alone", x.nozzle(0, 10, 2, 0), -5);
    }

    // Promise 8

    @Sentence("Promise 8: It is shut from NOW on")
    static void p08ShutFromNowOn() {
        WaterOffice x = office(100);
        x.nozzle(0, 9, 0, 0);
        x.nozzle(0, 8, 2, 0);
        x.go(5);
        due("shut", x.shut(0), 0);
        due("shut", x.shut(1), 0);
        due("the year ahead", x.gets(0, 4, 0), 9);
        due("the year itself", x.gets(0, 5, 0), 0);
        due("the last year", x.gets(0, 200, 0), 0);
        due("grant, the year ahead", x.lives(1, 4, 0), 1);
        due("grant, the year itself", x.lives(1, 5, 0), 0);
        due("they are there yet", x.count(3), 2);
    }

    @Sentence("Promise 8: It is shut from NOW on (in the YEAR in which it was stamped)")
    static void p08ShutInTheYearOfTheStamp() {
        WaterOffice x = office(100);
        x.nozzle(0, 9, 0, 0);
        due("in year 0", x.shut(0), 0);
        due("never open", x.gets(0, 0, 0), 0);
        x.go(3);
        x.nozzle(0, 9, 0, 0);
        due("in year 3", x.shut(1), 0);
        for (int year = 2; year <= 4; year++) {
            due("never open", x.gets(1, year, 0), 0);
        }
    }

    @Sentence("Promise 8: It is shut from NOW on (in the last YEAR)")
    static void p08ShutInTheLastYear() {
        WaterOffice x = office(100);
        x.nozzle(0, 9, 0, 0);
        goTo(x, 200);
        due("open yet", x.gets(0, 200, 0), 9);
        due("shut", x.shut(0), 0);
        due("the year ahead", x.gets(0, 199, 0), 9);
        due("the year itself", x.gets(0, 200, 0), 0);
    }

    @Sentence("Promise 8: (0; one that is shut stays as it was)")
    static void p08ShutAgain() {
        WaterOffice x = office(100);
        x.nozzle(0, 9, 0, 0);
        x.go(5);
        x.shut(0);
        x.go(5);
        due("again", x.shut(0), 0);
        due("status()", x.status(), 0);
        due("the year ahead of the first", x.gets(0, 4, 0), 9);
        due("the year of the first", x.gets(0, 5, 0), 0);
        due("the year ahead of the second", x.gets(0, 9, 0), 0);
    }

    @Sentence("Promise 8: -2.")
    static void p08NoSuchNozzle() {
        WaterOffice x = office(100);
        x.nozzle(0, 9, 0, 0);
        for (int nozzle : new int[] {-1, 1, 80, BIG, SMALL}) {
            due("shut(" + nozzle + ")", x.shut(nozzle), -2);
            due("status()", x.status(), -2);
        }
        due("the one there is", x.gets(0, 0, 0), 9);
    }

    @Sentence("Promise 8: It is shut (the last NOZZLE)")
    static void p08LastNozzle() {
        WaterOffice x = office(100);
        for (int i = 0; i < 80; i++) {
            x.nozzle(0, 1, 0, 0);
        }
        due("shut", x.shut(79), 0);
        due("it gets nothing", x.gets(79, 0, 0), 0);
        due("the one ahead of it", x.gets(78, 0, 0), 1);
    }

    // Promise 9

    @Sentence("Terms I: TAPS: an amount (1 .. 10,000)")
    static void p09LeastAndMostAmount() {
        WaterOffice x = office(100000);
        due("1", x.tap(0, 1, 3, 3), 1);
        due("10,000", x.tap(0, 10000, 4, 4), 2);
        due("1 is taken", x.at(0, 3, 0, TAPPED), 1);
        due("10,000 are taken", x.at(0, 4, 0, TAPPED), 10000);
    }

    @Sentence("Promise 9: -1 (an amount)")
    static void p09AmountThatCantBe() {
        WaterOffice x = office(100000);
        for (int amount : new int[] {0, -1, 10001, BIG, SMALL}) {
            due("tap(0, " + amount + ", 0, 200)", x.tap(0, amount, 0, 200), -1);
        }
        due("count(6)", x.count(6), 0);
        due("nothing is taken", x.at(0, 0, 0, TAPPED), 0);
    }

    @Sentence("Terms I: the first and the last YEAR of it (YEARS 0 .. 200)")
    static void p09FirstAndLastYear() {
        WaterOffice x = office(1000);
        due("first year of all", x.tap(0, 1, 0, 0), 1);
        due("last year of all", x.tap(0, 2, 200, 200), 2);
        due("some years", x.tap(0, 4, 5, 7), 3);
        due("in 0", x.at(0, 0, 0, TAPPED), 1);
        due("in 1", x.at(0, 1, 0, TAPPED), 0);
        due("in 4", x.at(0, 4, 0, TAPPED), 0);
        due("in 5", x.at(0, 5, 0, TAPPED), 4);
        due("in 7", x.at(0, 7, 0, TAPPED), 4);
        due("in 8", x.at(0, 8, 0, TAPPED), 0);
        due("in 199", x.at(0, 199, 0, TAPPED), 0);
        due("in 200", x.at(0, 200, 0, TAPPED), 2);
        due("all years", x.tap(0, 8, 0, 200), 4);
        due("in 0", x.at(0, 0, 0, TAPPED), 9);
        due("in 200", x.at(0, 200, 0, TAPPED), 10);
    }

    @Sentence("Promise 9: -1 (YEARS 0 .. 200)")
    static void p09YearThatCantBe() {
        WaterOffice x = office(1000);
        due("first below 0", x.tap(0, 1, -1, 5), -1);
        due("first far below", x.tap(0, 1, SMALL, 5), -1);
        due("last above 200", x.tap(0, 1, 5, 201), -1);
        due("last far above", x.tap(0, 1, 5, BIG), -1);
        due("both below 0", x.tap(0, 1, -2, -1), -1);
        due("both above 200", x.tap(0, 1, 201, 202), -1);
        due("all there are", x.tap(0, 1, SMALL, BIG), -1);
        due("count(6)", x.count(6), 0);
        due("in 5", x.at(0, 5, 0, TAPPED), 0);
    }

    @Sentence("Promise 9: -1 (the last YEAR ahead of the first)")
    static void p09LastAheadOfFirst() {
        WaterOffice x = office(1000);
        due("by one", x.tap(0, 1, 6, 5), -1);
        due("by all", x.tap(0, 1, 200, 0), -1);
        due("status()", x.status(), -1);
        due("count(6)", x.count(6), 0);
        due("not by any", x.tap(0, 1, 6, 6), 1);
        due("in 6", x.at(0, 6, 0, TAPPED), 1);
    }

    @Sentence("Promise 9: -2")
    static void p09NoSuchCastle() {
        WaterOffice x = office(1000);
        for (int castle : new int[] {-1, 1, 12, 100, BIG, SMALL}) {
            due("tap(" + castle + ", ..)", x.tap(castle, 1, 0, 200), -2);
        }
        due("count(6)", x.count(6), 0);
        due("nothing is taken", x.at(0, 0, 0, TAPPED), 0);
    }

    @Sentence("Terms I: TAPS, 60 at most; Promise 9: how many there are. -5.")
    static void p09SixtyTapsAtMost() {
        WaterOffice x = office(1000);
        x.castle(100, 1000, 0);
        for (int i = 1; i <= 60; i++) {
            due("tap", x.tap(0, 2, 0, 200), i);
        }
        due("one more", x.tap(0, 2, 0, 200), -5);
        due("one more on another pipe", x.tap(1, 2, 0, 200), -5);
        due("status()", x.status(), -5);
        due("count(6)", x.count(6), 60);
        due("taken", x.at(0, 9, 0, TAPPED), 120);
        due("not taken", x.at(1, 9, 0, TAPPED), 0);
    }

    @Sentence("Terms I: TAPS: on the PIPE of a CASTLE")
    static void p09LastCastle() {
        WaterOffice x = office(1000);
        for (int i = 1; i < 12; i++) {
            x.castle(100, 10, 0);
        }
        due("tap", x.tap(11, 3, 0, 0), 1);
        due("there", x.at(11, 0, 0, TAPPED), 3);
        for (int castle = 0; castle < 11; castle++) {
            due("not there", x.at(castle, 0, 0, TAPPED), 0);
        }
    }

    @Sentence("Terms I: REFUSED by .. The first of these in that order; Promise 9: -1; -2; -5.")
    static void p09OrderOfRefusals() {
        WaterOffice x = office(1000);
        due("amount and castle", x.tap(1, 0, 0, 0), -1);
        due("first and castle", x.tap(1, 1, -1, 0), -1);
        due("last and castle", x.tap(1, 1, 0, 201), -1);
        due("last ahead and castle", x.tap(1, 1, 1, 0), -1);
        for (int i = 0; i < 60; i++) {
            x.tap(0, 1, 0, 0);
        }
        due("amount and room", x.tap(0, 10001, 0, 0), -1);
        due("first and room", x.tap(0, 1, -1, 0), -1);
        due("last ahead and room", x.tap(0, 1, 1, 0), -1);
        due("castle and room", x.tap(1, 1, 0, 0), -2);
    }

    // Promise 10

    @Sentence("Terms I: REPAIRS: the first and the last YEAR: its PIPE carries nothing then.")
    static void p10FirstAndLastYear() {
        WaterOffice x = office(1000);
        due("first year of all", x.repair(0, 0, 0), 1);
        due("last year of all", x.repair(0, 200, 200), 2);
        due("some years", x.repair(0, 5, 7), 3);
        due("in 0", x.at(0, 0, 0, INTO_PIPE), 0);
        due("in 1", x.at(0, 1, 0, INTO_PIPE), 1000);
        due("in 4", x.at(0, 4, 0, INTO_PIPE), 1000);
        due("in 5", x.at(0, 5, 0, INTO_PIPE), 0);
        due("in 7", x.at(0, 7, 0, INTO_PIPE), 0);
        due("in 8", x.at(0, 8, 0, INTO_PIPE), 1000);
        due("in 199", x.at(0, 199, 0, INTO_PIPE), 1000);
        due("in 200", x.at(0, 200, 0, INTO_PIPE), 0);
    }

    @Sentence("Promise 10: -1 (YEARS 0 .. 200)")
    static void p10YearThatCantBe() {
        WaterOffice x = office(1000);
        due("first below 0", x.repair(0, -1, 5), -1);
        due("first far below", x.repair(0, SMALL, 5), -1);
        due("last above 200", x.repair(0, 5, 201), -1);
        due("last far above", x.repair(0, 5, BIG), -1);
        due("both below 0", x.repair(0, -2, -1), -1);
        due("both above 200", x.repair(0, 201, 202), -1);
        due("all there are", x.repair(0, SMALL, BIG), -1);
        due("count(7)", x.count(7), 0);
        due("in 5", x.at(0, 5, 0, INTO_PIPE), 1000);
    }

    @Sentence("Promise 10: -1 (the last YEAR ahead of the first)")
    static void p10LastAheadOfFirst() {
        WaterOffice x = office(1000);
        due("by one", x.repair(0, 6, 5), -1);
        due("by all", x.repair(0, 200, 0), -1);
        due("count(7)", x.count(7), 0);
        due("not by any", x.repair(0, 6, 6), 1);
    }

    @Sentence("Promise 10: -2")
    static void p10NoSuchCastle() {
        WaterOffice x = office(1000);
        for (int castle : new int[] {-1, 1, 12, 100, BIG, SMALL}) {
            due("repair(" + castle + ", ..)", x.repair(castle, 0, 200), -2);
        }
        due("count(7)", x.count(7), 0);
        due("the pipe there is", x.at(0, 0, 0, INTO_PIPE), 1000);
    }

    @Sentence("Terms I: REPAIRS, 40 at most; Promise 10: how many there are. -5.")
    static void p10FortyRepairsAtMost() {
        WaterOffice x = office(1000);
        x.castle(0, 1000, 0);
        for (int i = 1; i <= 40; i++) {
            due("repair", x.repair(0, i, i), i);
        }
        due("one more", x.repair(0, 41, 41), -5);
        due("one more of another", x.repair(1, 50, 50), -5);
        due("status()", x.status(), -5);
        due("count(7)", x.count(7), 40);
        due("the last one", x.at(0, 40, 0, INTO_PIPE), 0);
        due("one that found no room", x.at(0, 41, 0, INTO_PIPE), 1000);
    }

    @Sentence("Terms I: REPAIRS: of a CASTLE")
    static void p10LastCastle() {
        WaterOffice x = office(1000);
        for (int i = 1; i < 12; i++) {
            x.castle(100, 10, 0);
        }
        due("repair", x.repair(11, 0, 0), 1);
        due("there", x.at(11, 0, 0, INTO_PIPE), 0);
        for (int castle = 1; castle < 11; castle++) {
            due("not there", x.at(castle, 0, 0, INTO_PIPE), 10);
        }
    }

    @Sentence("Terms I: REFUSED by .. The first of these in that order; Promise 10: -1; -2; -5.")
    static void p10OrderOfRefusals() {
        WaterOffice x = office(1000);
        due("first and castle", x.repair(1, -1, 0), -1);
        due("last and castle", x.repair(1, 0, 201), -1);
        due("last ahead and castle", x.repair(1, 1, 0), -1);
        for (int i = 0; i < 40; i++) {
            x.repair(0, 0, 0);
        }
        due("first and room", x.repair(0, -1, 0), -1);
        due("last ahead and room", x.repair(0, 1, 0), -1);
        due("castle and room", x.repair(1, 0, 0), -2);
    }

    // Promise 11

    @Sentence("Terms I: NOW is 0 at first; Promise 11: YEARS go by (1 .. 50): NOW.")
    static void p11LeastAndMostYears() {
        WaterOffice x = new WaterOffice();
        due("now", x.count(0), 0);
        due("1", x.go(1), 1);
        due("50", x.go(50), 51);
        due("now", x.count(0), 51);
    }

    @Sentence("Promise 11: -1 (1 .. 50)")
    static void p11YearsThatCantBe() {
        WaterOffice x = new WaterOffice();
        x.go(7);
        for (int years : new int[] {0, -1, -7, 51, BIG, SMALL}) {
            due("go(" + years + ")", x.go(years), -1);
            due("status()", x.status(), -1);
            due("now", x.count(0), 7);
        }
    }

    @Sentence("Promise 11: -1, also if it would be above 200.")
    static void p11NotAbove200() {
        WaterOffice x = goTo(new WaterOffice(), 151);
        due("by one too many", x.go(50), -1);
        due("now", x.count(0), 151);
        due("just to 200", x.go(49), 200);
        due("none more", x.go(1), -1);
        due("many more", x.go(BIG), -1);
        due("now", x.count(0), 200);
    }

    // Refused calls

    /** The same story twice: the second time a call that is refused stands behind each of its calls. */
    @Sentence("Terms I: REFUSED (a call that is REFUSED changes nothing)")
    static void refusedCallsChangeNothing() {
        WaterOffice calm = new WaterOffice();
        WaterOffice vexed = new WaterOffice();
        for (int step = 0; step < 12; step++) {
            tell(calm, step);
            tell(vexed, step);
            vex(vexed, step);
        }
        for (int what = 0; what <= 10; what++) {
            due("count(" + what + ")", vexed.count(what), calm.count(what));
        }
        for (int year = 0; year <= 8; year++) {
            for (int what = 0; what <= 6; what++) {
                due("at(1, " + year + ", 9, " + what + ")", vexed.at(1, year, 9, what), calm.at(1, year, 9, what));
            }
            for (int nozzle = 0; nozzle <= 2; nozzle++) {
                due("gets", vexed.gets(nozzle, year, 9), calm.gets(nozzle, year, 9));
            }
            for (int what = 0; what <= 7; what++) {
                due("law", vexed.law(year, what), calm.law(year, what));
            }
        }
        due("dead", vexed.dead(0, 9), 4);
        due("laws of what was on the tape", vexed.laws(), 1);
        due("law", vexed.law(7, 3), 6);
    }

    private static void tell(WaterOffice x, int step) {
        switch (step) {
            case 0: x.aqueduct(1000); break;
            case 1: x.castle(0, 900, 10); break;
            case 2: x.castle(100, 300, 20); break;
            case 3: x.person(); break;
            case 4: x.nozzle(0, 700, 0, 3); break;
            case 5: x.nozzle(1, 100, 2, 0); x.nozzle(1, 90, 1, 4); break;
            case 6: x.spring(0, 3, 400); break;
            case 7: x.tap(1, 50, 2, 3); break;
            case 8: x.repair(1, 5, 5); break;
            case 9: x.death(0, 4, 8); break;
            case 10: laws(x, "from 2 to 6 first grants; from 3 fine 2; from 6 most 200"); x.go(7); break;
            default: write(x, "from 7 fine 6"); x.shut(1);
        }
    }

    private static void vex(WaterOffice x, int step) {
        due("aqueduct", x.aqueduct(-1), -1);
        due("spring", x.spring(0, 3, 100001), -1);
        due("spring", x.spring(1, 3, 7), -2);
        due("castle", x.castle(0, 0, 0), -1);
        due("castle", x.castle(7, 1, 0), -2);
        due("death", x.death(0, 1, 201), -1);
        due("death", x.death(1, 1, 1), -2);
        due("nozzle", x.nozzle(0, 0, 0, 0), -1);
        due("nozzle", x.nozzle(2, 1, 0, 0), -2);
        due("shut", x.shut(-1), -2);
        due("tap", x.tap(0, 10, 6, 5), -1);
        due("tap", x.tap(2, 10, 0, 9), -2);
        due("repair", x.repair(0, 6, 5), -1);
        due("repair", x.repair(2, 0, 9), -2);
        due("go", x.go(0), -1);
        due("end", x.end(401), NONE);
        if (step == 10) {
            due("nozzle", x.nozzle(0, 201, 2, 0), -3);
            due("laws", laws(x, "from 0 first grants; from 0 rent"), -6);
        }
    }
}
