/** The bounds of best years, rents, fines, deaths, counts and the status: Terms I and IV, promises 22 to 27. */
public final class YearBoundsTest extends Check {
    public static void main(String[] args) {
        runSentences(YearBoundsTest.class);
    }

    /** An office whose only castle serves a fountain of size 10 for each of so many quarters. */
    private static WaterOffice quarters(int count) {
        WaterOffice x = office(1000);
        for (int quarter = 0; quarter < count; quarter++) {
            x.nozzle(0, 10, 0, quarter);
        }
        return x;
    }

    // Promise 22

    @Sentence("Promise 22: so many YEARS (1 .. 10)")
    static void p22LeastAndMostYears() {
        WaterOffice x = quarters(1);
        due("1", x.best(0, 1, 5, 9), 5);
        due("10", x.best(0, 10, 5, 9), 5);
    }

    @Sentence("Promise 22: -1 (1 .. 10)")
    static void p22YearsThatCantBe() {
        WaterOffice x = quarters(1);
        for (int years : new int[] {0, -1, 11, BIG, SMALL}) {
            due("best(0, " + years + ", 0, 0)", x.best(0, years, 0, 0), -1);
            due("best(0, " + years + ", 0, 200)", x.best(0, years, 0, 200), -1);
        }
    }

    @Sentence("Promise 22: -1 (from .. to: YEARS 0 .. 200)")
    static void p22FromOrToThatCantBe() {
        WaterOffice x = quarters(1);
        for (int year : NO_YEARS) {
            due("from " + year, x.best(0, 1, year, 200), -1);
            due("to " + year, x.best(0, 1, 0, year), -1);
            due("from and to " + year, x.best(0, 1, year, year), -1);
        }
        due("from the first", x.best(0, 1, 0, 0), 0);
        due("to the last", x.best(0, 1, 200, 200), 200);
        due("all years", x.best(0, 1, 0, 200), 0);
    }

    @Sentence("Promise 22: begins in one of from .. to; -1 (none)")
    static void p22ToAheadOfFrom() {
        WaterOffice x = quarters(1);
        due("by one", x.best(0, 1, 6, 5), -1);
        due("by all", x.best(0, 1, 200, 0), -1);
        due("not by any", x.best(0, 1, 6, 6), 6);
    }

    @Sentence("Promise 22: (the last one's end at most 200)")
    static void p22LastEndAtMost200() {
        WaterOffice x = quarters(1);
        for (int years = 1; years <= 10; years++) {
            due(years + " to 200", x.best(0, years, 150, 201 - years), 150);
            due(years + " to 201", x.best(0, years, 150, 202 - years), -1);
        }
        due("far above", x.best(0, 10, 0, BIG), -1);
        due("so far that it would wrap around", x.best(0, 10, 0, BIG - 8), -1);
    }

    @Sentence("Promise 22: (the last one's end at most 200): that of the last YEAR counts, too")
    static void p22LastYearsAreLookedAt() {
        WaterOffice x = quarters(1);
        goTo(x, 200);
        x.shut(0);
        due("the last year", x.best(0, 1, 0, 200), 200);
        due("the last two", x.best(0, 2, 0, 199), 199);
        due("the last ten", x.best(0, 10, 0, 191), 191);
        due("not so far", x.best(0, 10, 0, 190), 0);
    }

    @Sentence("Promise 22: -2.")
    static void p22NoSuchCastle() {
        WaterOffice x = quarters(1);
        for (int castle : new int[] {-1, 1, 12, 100, BIG, SMALL}) {
            due("best(" + castle + ", 1, 0, 0)", x.best(castle, 1, 0, 0), -2);
        }
    }

    @Sentence("Terms I: REFUSED by .. The first of these in that order; Promise 22: -1; -2.")
    static void p22OrderOfRefusals() {
        WaterOffice x = quarters(1);
        due("years and castle", x.best(1, 0, 0, 0), -1);
        due("from and castle", x.best(1, 1, -1, 0), -1);
        due("to and castle", x.best(1, 1, 0, 201), -1);
        due("to ahead and castle", x.best(1, 1, 1, 0), -1);
        due("end and castle", x.best(1, 2, 0, 200), -1);
    }

    @Sentence("Promise 22: no REPAIR is told.")
    static void p22NoRepairIsTold() {
        WaterOffice x = quarters(1);
        due("best", x.best(0, 2, 3, 5), 3);
        due("count(7)", x.count(7), 0);
        for (int year = 3; year <= 6; year++) {
            due("in " + year, x.at(0, year, 0, 1), 1000);
        }
        for (int i = 0; i < 40; i++) {
            x.repair(0, 3, 3);
        }
        due("also if there is no room for one", x.best(0, 2, 3, 5), 3);
        due("count(7)", x.count(7), 40);
        due("status()", x.status(), 0);
    }

    @Sentence("Terms IV: the sum of DRY QUARTERS over all its YEARS is least")
    static void p22SumOverAllItsYears() {
        WaterOffice x = quarters(1);
        x.castle(0, 10, 0);
        x.nozzle(1, 10, 0, 1);
        x.nozzle(1, 10, 0, 2);
        int[] dry = {1, 3, 1, 1, 3, 1, 1, 1, 3};
        for (int year = 0; year < dry.length; year++) {
            x.spring(0, year, dry[year] == 1 ? 1000 : 0);
        }
        due("one year", x.best(0, 1, 1, 8), 2);
        due("two years", x.best(0, 2, 0, 7), 2);
        due("two years, later", x.best(0, 2, 3, 7), 5);
        due("three years", x.best(0, 3, 0, 6), 5);
        due("four years, all but one alike", x.best(0, 4, 0, 5), 0);
        due("four years, behind that one", x.best(0, 4, 1, 5), 2);
    }

    @Sentence("Terms IV: (the first)")
    static void p22TheFirstOfSeveral() {
        WaterOffice x = quarters(1);
        x.castle(0, 10, 0);
        x.nozzle(1, 10, 0, 1);
        x.spring(0, 3, 0);
        x.spring(0, 6, 0);
        due("all alike", x.best(0, 1, 4, 5), 4);
        due("behind a worse one", x.best(0, 1, 3, 9), 4);
        due("behind a worse one", x.best(0, 1, 6, 9), 7);
    }

    @Sentence("Terms IV: DRY QUARTERS (0 .. 7)")
    static void p22EachQuarterCounts() {
        for (int quarter = 0; quarter <= 7; quarter++) {
            WaterOffice x = office(1000);
            x.nozzle(0, 10, 1, quarter);
            x.go(3);
            x.shut(0);
            due("without quarter " + quarter, x.best(0, 1, 1, 5), 3);
        }
    }

    @Sentence("Terms IV: the REPAIR being there (beside those that are told)")
    static void p22BesideOtherRepairs() {
        WaterOffice x = quarters(1);
        x.castle(0, 10, 0);
        x.nozzle(1, 10, 0, 1);
        x.repair(0, 4, 5);
        due("castle 1, when castle 0 is not dry", x.best(1, 1, 4, 9), 6);
        due("castle 0, when it is dry already", x.best(0, 1, 2, 9), 2);
    }

    @Sentence("Terms IV: the REPAIR being there (the castles behind it are dry, too)")
    static void p22CastlesBehindARepair() {
        WaterOffice x = quarters(1);
        x.castle(100, 100, 0);
        x.nozzle(1, 10, 0, 1);
        x.go(4);
        x.shut(1);
        due("the castle ahead", x.best(0, 1, 2, 6), 4);
        due("the castle behind", x.best(1, 1, 2, 6), 4);
        due("two years", x.best(0, 2, 2, 6), 4);
    }

    @Sentence("Terms IV: (as known in NOW)")
    static void p22AsKnownInNow() {
        WaterOffice x = office(100);
        x.castle(0, 30, 0);
        x.nozzle(1, 30, 2, 0);
        x.nozzle(1, 30, 0, 1);
        laws(x, "from 0 first grants");
        x.spring(0, 2, 100000);
        x.spring(0, 3, 100000);
        x.death(0, 2, 6);
        x.go(5);
        due("dry in 2 and in 3", x.best(0, 1, 2, 3), 2);
        x.go(1);
        due("dry in 2 alone", x.best(0, 1, 2, 3), 3);
    }

    @Sentence("Terms I: (12 at most), (80 at most), (40 at most), 60 at most, 40 at most (best in a full office)")
    static void p22FullOffice() {
        WaterOffice x = office(100000);
        for (int castle = 1; castle < 12; castle++) {
            x.castle(99 + castle, 100000, 0);
        }
        for (int i = 0; i < 80; i++) {
            x.nozzle(i % 12, 1000, i % 2, i % 8);
        }
        for (int i = 0; i < 60; i++) {
            x.spring(0, i, 100000);
            x.tap(i % 12, 1, 0, 200);
            x.death(0, 200, 200);
        }
        for (int i = 0; i < 40; i++) {
            x.repair(11, 200, 200);
        }
        due("all are dry", x.best(0, 10, 0, 191), 0);
        due("status()", x.status(), 0);
        x.repair(11, 0, 0);
        due("no room", x.status(), -5);
    }

    // Promise 23

    @Sentence("Promise 23: as known in a YEAR. -1 (YEARS 0 .. 200)")
    static void p23YearThatCantBe() {
        WaterOffice x = office(100);
        for (int year : NO_YEARS) {
            due("rent(0, " + year + ")", x.rent(0, year), -1);
        }
        due("first year", x.rent(0, 0), 0);
        due("last year", x.rent(0, 200), 0);
    }

    @Sentence("Promise 23: -2.")
    static void p23NoSuchPerson() {
        WaterOffice x = office(100);
        for (int person : new int[] {-1, 1, 40, BIG, SMALL}) {
            due("rent(" + person + ", 0)", x.rent(person, 0), -2);
        }
    }

    @Sentence("Terms I: REFUSED by .. The first of these in that order; Promise 23: -1; -2.")
    static void p23OrderOfRefusals() {
        WaterOffice x = office(100);
        due("known and person", x.rent(1, 201), -1);
        due("known and person", x.rent(-1, -1), -1);
    }

    @Sentence("Terms IV: RENT over YEARS 0 .. NOW - 1")
    static void p23YearsAheadOfNow() {
        WaterOffice x = office(100);
        x.nozzle(0, 10, 2, 0);
        laws(x, "from 0 rent 3");
        due("in 0", x.rent(0, 0), 0);
        x.go(1);
        due("in 1", x.rent(0, 0), 30);
        x.go(1);
        due("in 2", x.rent(0, 0), 60);
        goTo(x, 200);
        due("in 200", x.rent(0, 0), 6000);
        due("known in another year", x.rent(0, 200), 6000);
    }

    @Sentence("Terms IV: each YEAR and grant of that PERSON that LIVES then")
    static void p23GrantsOfThatPersonThatLive() {
        WaterOffice x = office(1000);
        x.person();
        x.nozzle(0, 10, 2, 0);
        x.nozzle(0, 20, 2, 1);
        x.nozzle(0, 40, 2, 0);
        x.nozzle(0, 80, 0, 0);
        laws(x, "from 0 rent 1; from 2 to 2 most 39");
        x.go(3);
        x.shut(0);
        x.nozzle(0, 5, 2, 0);
        x.go(1);
        due("person 0", x.rent(0, 0), 50 + 50 + 10 + 45);
        due("person 1", x.rent(1, 0), 80);
    }

    @Sentence("Terms IV: \"rent\" of that YEAR times what it gets in FLOWS")
    static void p23RentOfThatYearTimesWhatItGets() {
        WaterOffice x = office(100);
        x.nozzle(0, 10, 2, 0);
        laws(x, "from 1 to 2 rent 7; from 2 to 2 rent 5; from 3 rent 0; from 4 rent 1; from 4 to 4 close 2");
        x.spring(0, 1, 4);
        goTo(x, 6);
        due("rent", x.rent(0, 0), 7 * 4 + 5 * 10 + 10);
    }

    @Sentence("Terms IV: if the PERSON has no YEAR of death as known in k")
    static void p23DeathNotKnown() {
        WaterOffice x = office(100);
        x.nozzle(0, 10, 2, 0);
        laws(x, "from 0 rent 1");
        x.death(0, 3, 8);
        x.go(6);
        due("not known", x.rent(0, 7), 60);
        due("known", x.rent(0, 8), 40);
    }

    @Sentence("Terms IV: or that is not ahead of it (heirs pay nothing)")
    static void p23HeirsPayNothing() {
        WaterOffice x = office(100);
        x.nozzle(0, 10, 2, 0);
        laws(x, "from 0 rent 1; from 0 heirs 2");
        x.death(0, 3, 0);
        x.go(3);
        due("until 2", x.rent(0, 0), 30);
        x.go(1);
        due("the year of death", x.rent(0, 0), 40);
        x.go(1);
        due("the first year of heirs", x.rent(0, 0), 40);
        x.go(2);
        due("all years of heirs", x.rent(0, 0), 40);
        due("they have it yet", x.gets(0, 5, 0), 10);
        due("no more", x.gets(0, 6, 0), 0);
    }

    @Sentence("Terms IV: what it gets in FLOWS as known in k (of other PERSONS, too)")
    static void p23DeathsOfOthers() {
        WaterOffice x = office(10);
        x.person();
        x.nozzle(0, 10, 2, 0);
        x.nozzle(0, 10, 2, 1);
        laws(x, "from 0 rent 1");
        x.death(1, 1, 4);
        x.go(3);
        due("not known", x.rent(0, 3), 15);
        due("known", x.rent(0, 4), 20);
        due("of the dead", x.rent(1, 4), 10);
    }

    @Sentence("Promise 23: long rent (above what an int holds)")
    static void p23LargestRent() {
        WaterOffice x = office(100000);
        for (int i = 0; i < 80; i++) {
            x.nozzle(0, 1000, 2, 0);
        }
        laws(x, "from 0 rent 100000");
        x.go(1);
        due("of one year", x.rent(0, 0), 8000000000L);
        goTo(x, 200);
        due("of all years", x.rent(0, 0), 1600000000000L);
    }

    // Promise 24

    @Sentence("Promise 24: -2.")
    static void p24NoSuchCastle() {
        WaterOffice x = office(100);
        due("without taps", x.fines(0), 0);
        for (int castle : new int[] {-1, 1, 12, 100, BIG, SMALL}) {
            due("fines(" + castle + ")", x.fines(castle), -2);
        }
    }

    @Sentence("Terms IV: FINES of TAPS over YEARS 0 .. NOW - 1")
    static void p24YearsAheadOfNow() {
        WaterOffice x = office(100);
        x.tap(0, 10, 0, 200);
        laws(x, "from 0 fine 3");
        due("in 0", x.fines(0), 0);
        x.go(1);
        due("in 1", x.fines(0), 30);
        x.go(1);
        due("in 2", x.fines(0), 60);
        goTo(x, 200);
        due("in 200", x.fines(0), 6000);
    }

    @Sentence("Terms IV: \"fine\" of each times what its TAPS took")
    static void p24FineOfEachYearTimesWhatTapsTook() {
        WaterOffice x = office(100);
        x.tap(0, 10, 1, 3);
        x.tap(0, 95, 3, 5);
        laws(x, "from 2 to 3 fine 7; from 3 to 3 fine 5; from 4 fine 0; from 5 fine 1");
        x.go(8);
        due("fines", x.fines(0), 7 * 10 + 5 * 100 + 95);
    }

    @Sentence("Promise 24: FINES of all TAPS on the PIPE of a CASTLE.")
    static void p24TapsOfThatPipe() {
        WaterOffice x = office(100);
        x.castle(100, 50, 0);
        x.tap(0, 1, 0, 0);
        x.tap(1, 2, 0, 0);
        x.tap(0, 4, 0, 0);
        x.tap(1, 8, 0, 0);
        laws(x, "from 0 fine 1");
        x.go(1);
        due("castle 0", x.fines(0), 5);
        due("castle 1", x.fines(1), 10);
    }

    @Sentence("Terms IV: FLOWS as known in NOW")
    static void p24AsKnownInNow() {
        WaterOffice x = office(100);
        x.castle(100, 100, 0);
        x.nozzle(0, 70, 2, 0);
        x.tap(1, 50, 0, 200);
        laws(x, "from 0 fine 1");
        x.death(0, 2, 6);
        x.go(5);
        due("not known in 5", x.fines(1), 5 * 30);
        x.go(1);
        due("known in 6", x.fines(1), 3 * 30 + 3 * 50);
    }

    @Sentence("Promise 24: long fines (above what an int holds)")
    static void p24LargestFines() {
        WaterOffice x = office(100000);
        for (int i = 0; i < 11; i++) {
            x.tap(0, 10000, 0, 200);
        }
        laws(x, "from 0 fine 100000");
        x.go(1);
        due("of one year", x.fines(0), 10000000000L);
        goTo(x, 200);
        due("of all years", x.fines(0), 2000000000000L);
    }

    // Promise 25

    @Sentence("Promise 25: NONE (PERSON)")
    static void p25NoSuchPerson() {
        WaterOffice x = office(100);
        x.death(0, 5, 0);
        for (int person : new int[] {-1, 1, 40, BIG, SMALL}) {
            due("dead(" + person + ", 0)", x.dead(person, 0), NONE);
        }
        due("status()", x.status(), 0);
    }

    @Sentence("Promise 25: as known in a YEAR; NONE (YEARS 0 .. 200)")
    static void p25YearThatCantBe() {
        WaterOffice x = office(100);
        x.death(0, 5, 0);
        for (int year : NO_YEARS) {
            due("dead(0, " + year + ")", x.dead(0, year), NONE);
        }
        due("first year", x.dead(0, 0), 5);
        due("last year", x.dead(0, 200), 5);
    }

    @Sentence("Promise 25: NONE (without it, too).")
    static void p25WithoutDeath() {
        WaterOffice x = office(100);
        x.person();
        x.death(1, 5, 5);
        due("another one died", x.dead(0, 200), NONE);
        due("not yet known", x.dead(1, 4), NONE);
        due("known", x.dead(1, 5), 5);
    }

    @Sentence("Terms I: each told one stands for its PERSON as known from then on, in place of those told ahead of it")
    static void p25ToldLaterStandsInPlace() {
        WaterOffice x = office(100);
        x.death(0, 10, 20);
        x.death(0, 30, 25);
        due("none", x.dead(0, 19), NONE);
        due("the first", x.dead(0, 20), 10);
        due("the first", x.dead(0, 24), 10);
        due("the second", x.dead(0, 25), 30);
        due("the second", x.dead(0, 200), 30);
    }

    @Sentence("Terms I: the YEAR of the DEATH told last of those known by k (told last, not known last)")
    static void p25ToldLastNotKnownLast() {
        WaterOffice x = office(100);
        x.death(0, 10, 20);
        x.death(0, 30, 15);
        due("none", x.dead(0, 14), NONE);
        due("the second", x.dead(0, 15), 30);
        due("the second yet", x.dead(0, 20), 30);
        x.death(0, 7, 20);
        due("the second", x.dead(0, 19), 30);
        due("the third", x.dead(0, 20), 7);
    }

    @Sentence("Terms I: as known in a YEAR (no matter which YEAR is NOW)")
    static void p25NowDoesNotMatter() {
        WaterOffice x = office(100);
        x.go(50);
        x.death(0, 10, 20);
        due("known ahead of now", x.dead(0, 20), 10);
        due("not known ahead of now", x.dead(0, 19), NONE);
        x.death(0, 100, 60);
        due("known behind now", x.dead(0, 60), 100);
        due("not known in 59", x.dead(0, 59), 10);
    }

    // Promise 26

    @Sentence("Promise 26: 0 NOW, 1 AQUEDUCTS, .. 10 springs told")
    static void p26EachCount() {
        WaterOffice x = office(100);
        for (int i = 0; i < 2; i++) {
            x.aqueduct(1);
        }
        for (int i = 0; i < 3; i++) {
            x.castle(0, 1, 0);
        }
        for (int i = 0; i < 5; i++) {
            x.nozzle(0, 1, 0, 0);
            x.person();
        }
        for (int i = 0; i < 7; i++) {
            x.death(0, 1, 1);
        }
        for (int i = 0; i < 8; i++) {
            x.tap(0, 1, 0, 0);
        }
        for (int i = 0; i < 9; i++) {
            x.repair(0, 0, 0);
        }
        for (int i = 0; i < 12; i++) {
            x.spring(0, i, 1);
        }
        laws(x, "from0rent0;from0rent0");
        write(x, "eleven bytes".substring(1));
        x.go(13);
        int[] want = {13, 3, 4, 5, 6, 7, 8, 9, 2, 11, 12};
        for (int what = 0; what <= 10; what++) {
            due("count(" + what + ")", x.count(what), want[what]);
        }
    }

    @Sentence("Promise 26: NONE for others.")
    static void p26NoneForOthers() {
        WaterOffice x = office(100);
        for (int what : new int[] {-1, 11, 12, BIG, SMALL}) {
            due("count(" + what + ")", x.count(what), NONE);
        }
        due("status()", x.status(), 0);
    }

    // Promise 27

    @Sentence("Promise 27: 0 .. ahead of any.")
    static void p27AheadOfAny() {
        WaterOffice x = new WaterOffice();
        due("of a new office", x.status(), 0);
        x.fault();
        x.count(-1);
        x.law(-1, 0);
        x.rent(0, 0);
        x.end(-1);
        due("behind other calls", x.status(), 0);
    }

    @Sentence("Promise 27: What the latest call of those that can be REFUSED was REFUSED by (-1)")
    static void p27NumberThatCantBe() {
        for (int call = 0; call < 8; call++) {
            WaterOffice x = office(100);
            int answer = switch (call) {
                case 0 -> x.aqueduct(-1);
                case 1 -> x.spring(0, 201, 0);
                case 2 -> x.castle(0, 0, 0);
                case 3 -> x.death(0, 201, 0);
                case 4 -> x.nozzle(0, 0, 0, 0);
                case 5 -> x.tap(0, 0, 0, 0);
                case 6 -> x.repair(0, 1, 0);
                default -> x.go(0);
            };
            due("call " + call, answer, -1);
            due("status() behind call " + call, x.status(), -1);
        }
    }

    @Sentence("Promise 27: What the latest call of those that can be REFUSED was REFUSED by (-2)")
    static void p27NoSuch() {
        for (int call = 0; call < 7; call++) {
            WaterOffice x = office(100);
            int answer = switch (call) {
                case 0 -> x.spring(1, 0, 0);
                case 1 -> x.castle(101, 1, 0);
                case 2 -> x.death(1, 0, 0);
                case 3 -> x.nozzle(1, 1, 0, 0);
                case 4 -> x.shut(0);
                case 5 -> x.tap(1, 1, 0, 0);
                default -> x.repair(1, 0, 0);
            };
            due("call " + call, answer, -2);
            due("status() behind call " + call, x.status(), -2);
        }
    }

    @Sentence("Promise 27: What the latest call of those that can be REFUSED was REFUSED by (-3, -6)")
    static void p27BarredAndBadText() {
        WaterOffice x = office(100);
        laws(x, "from 0 most 1");
        due("nozzle", x.nozzle(0, 2, 2, 0), -3);
        due("status()", x.status(), -3);
        due("laws", laws(x, "from 0 most"), -6);
        due("status()", x.status(), -6);
        due("laws", laws(x, "from 0 most 2"), 1);
        due("status()", x.status(), 0);
        due("laws", x.laws(), -6);
        due("status()", x.status(), -6);
    }

    private static int tellOneMore(WaterOffice x, int kind, int i) {
        return switch (kind) {
            case 0 -> x.aqueduct(1);
            case 1 -> x.spring(0, i, 1);
            case 2 -> x.castle(0, 1, 0);
            case 3 -> x.person();
            case 4 -> x.death(0, 1, 1);
            case 5 -> x.nozzle(0, 1, 0, 0);
            case 6 -> x.tap(0, 1, 0, 0);
            default -> x.repair(0, 0, 0);
        };
    }

    @Sentence("Promise 27: What the latest call of those that can be REFUSED was REFUSED by (-5)")
    static void p27NoRoom() {
        int[] room = {4, 60, 12, 40, 60, 80, 60, 40};
        for (int kind = 0; kind < 8; kind++) {
            WaterOffice x = office(100);
            int told = kind == 0 || kind == 2 || kind == 3 ? 1 : 0;
            for (int i = told; i < room[kind]; i++) {
                tellOneMore(x, kind, i);
                due("status() of kind " + kind, x.status(), 0);
            }
            due("kind " + kind, tellOneMore(x, kind, room[kind]), -5);
            due("status() behind kind " + kind, x.status(), -5);
        }
    }

    @Sentence("Promise 27: 0 if it was not")
    static void p27NotRefused() {
        for (int call = 0; call < 12; call++) {
            WaterOffice x = office(100);
            x.nozzle(0, 1, 0, 0);
            x.tap(0, 0, 0, 0);
            due("status() ahead", x.status(), -1);
            switch (call) {
                case 0 -> x.aqueduct(1);
                case 1 -> x.spring(0, 1, 1);
                case 2 -> x.castle(0, 1, 0);
                case 3 -> x.person();
                case 4 -> x.death(0, 1, 1);
                case 5 -> x.nozzle(0, 1, 0, 0);
                case 6 -> x.tap(0, 1, 0, 0);
                case 7 -> x.repair(0, 0, 0);
                case 8 -> x.shut(0);
                case 9 -> x.go(1);
                case 10 -> laws(x, "from 0 rent 1");
                default -> laws(x, " ");
            }
            due("status() behind call " + call, x.status(), 0);
        }
    }

    @Sentence("Promise 27: (with a code above, best, rent and fines aside)")
    static void p27BestRentAndFinesAside() {
        WaterOffice x = office(100);
        x.best(0, 0, 0, 0);
        x.best(1, 1, 0, 0);
        x.rent(0, 201);
        x.rent(1, 0);
        x.fines(1);
        due("they are refused", x.status(), 0);
        x.shut(0);
        x.best(0, 1, 0, 0);
        x.rent(0, 0);
        x.fines(0);
        due("they are not refused", x.status(), -2);
    }

    @Sentence("Promise 27: of those that can be REFUSED (NONE is no REFUSED)")
    static void p27OthersLeaveIt() {
        WaterOffice x = office(100);
        x.nozzle(0, 1, 2, 0);
        x.shut(1);
        x.feed(0, 0, 0, 0, 0);
        x.end(0);
        x.end(1);
        x.fault();
        x.law(0, 0);
        x.law(201, 0);
        x.lives(0, 0, 0);
        x.lives(1, 0, 0);
        x.gets(0, 0, 0);
        x.gets(1, 0, 0);
        x.at(0, 0, 0, 0);
        x.at(1, 0, 0, 0);
        x.dry(0, 0, 0);
        x.dry(8, 0, 0);
        x.found(0, 0);
        x.found(1, 0);
        x.dead(0, 0);
        x.dead(1, 0);
        x.count(0);
        x.count(11);
        due("status()", x.status(), -2);
        due("status() again", x.status(), -2);
    }

    @Sentence("Promise 27: the latest call")
    static void p27LatestCall() {
        WaterOffice x = office(100);
        x.go(0);
        x.shut(0);
        due("the later refusal", x.status(), -2);
        x.go(0);
        due("the later refusal", x.status(), -1);
        x.go(1);
        due("not refused", x.status(), 0);
    }
}
