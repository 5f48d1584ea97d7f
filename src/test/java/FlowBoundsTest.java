/** The bounds of lives, flows, dry quarters and what is found: Terms II (LIVES) and III, promises 17 to 21. */
public final class FlowBoundsTest extends Check {
    private static final int IN = 0;
    private static final int INTO_PIPE = 1;
    private static final int TAPPED = 2;
    private static final int LOST = 3;
    private static final int GIVEN = 4;
    private static final int ON = 5;
    private static final int WASTE = 6;

    public static void main(String[] args) {
        runSentences(FlowBoundsTest.class);
    }

    /** An office with nozzles of these sizes at its one castle, of one rank, for quarter or person 0. */
    private static WaterOffice officeOf(int water, int rank, int... sizes) {
        WaterOffice x = office(water);
        for (int size : sizes) {
            x.nozzle(0, size, rank, 0);
        }
        return x;
    }

    private static void getsDue(WaterOffice x, int year, int... want) {
        for (int nozzle = 0; nozzle < want.length; nozzle++) {
            due("gets(" + nozzle + ", " + year + ", 0)", x.gets(nozzle, year, 0), want[nozzle]);
        }
    }

    /** An office with one castle that feeds others by pipes that carry so much. */
    private static WaterOffice officeWithPipes(int water, int... carried) {
        WaterOffice x = office(water);
        for (int carries : carried) {
            x.castle(100, carries, 0);
        }
        return x;
    }

    private static void pipesDue(WaterOffice x, int year, int... want) {
        for (int i = 0; i < want.length; i++) {
            due("at(" + (i + 1) + ", " + year + ", 0, 1)", x.at(i + 1, year, 0, INTO_PIPE), want[i]);
        }
    }

    // Promise 17

    @Sentence("Promise 17: NONE (a NOZZLE)")
    static void p17NoSuchNozzle() {
        WaterOffice x = officeOf(100, 2, 10);
        for (int nozzle : new int[] {-1, 1, 80, BIG, SMALL}) {
            due("lives(" + nozzle + ", 0, 0)", x.lives(nozzle, 0, 0), NONE);
        }
        due("status()", x.status(), 0);
    }

    @Sentence("Promise 17: NONE (a NOZZLE of another RANK, too)")
    static void p17NozzleOfAnotherRank() {
        WaterOffice x = office(100);
        x.nozzle(0, 1, 0, 0);
        x.nozzle(0, 1, 1, 0);
        x.nozzle(0, 1, 2, 0);
        due("fountain", x.lives(0, 0, 0), NONE);
        due("bath", x.lives(1, 0, 0), NONE);
        due("grant", x.lives(2, 0, 0), 1);
    }

    @Sentence("Promise 17: in a YEAR as known in another one; NONE (YEARS 0 .. 200)")
    static void p17YearThatCantBe() {
        WaterOffice x = officeOf(100, 2, 10);
        for (int year : NO_YEARS) {
            due("in " + year, x.lives(0, year, 0), NONE);
            due("known in " + year, x.lives(0, 0, year), NONE);
        }
        due("first years", x.lives(0, 0, 0), 1);
        due("last years", x.lives(0, 200, 200), 1);
    }

    @Sentence("Terms II: OPEN from the YEAR in which they were stamped")
    static void p17FromTheYearOfTheStamp() {
        WaterOffice x = office(100);
        x.go(6);
        x.nozzle(0, 10, 2, 0);
        due("in 5", x.lives(0, 5, 0), 0);
        due("in 6", x.lives(0, 6, 0), 1);
        due("in 200", x.lives(0, 200, 0), 1);
    }

    @Sentence("Terms II: to the one ahead of that in which they were shut")
    static void p17ToTheYearAheadOfTheShutting() {
        WaterOffice x = officeOf(100, 2, 10);
        x.go(6);
        x.shut(0);
        due("in 0", x.lives(0, 0, 0), 1);
        due("in 5", x.lives(0, 5, 0), 1);
        due("in 6", x.lives(0, 6, 0), 0);
        due("in 7", x.lives(0, 7, 0), 0);
    }

    @Sentence("Terms II: its SIZE is not above \"most\" of y")
    static void p17SizeNotAboveMost() {
        WaterOffice x = officeOf(100, 2, 10, 1, 1000);
        laws(x, "from 3 to 5 most 10; from 4 to 4 most 9; from 6 to 6 most 11; from 7 to 7 most 0");
        due("no bound", x.lives(0, 2, 0), 1);
        due("as large", x.lives(0, 3, 0), 1);
        due("larger by one", x.lives(0, 4, 0), 0);
        due("as large", x.lives(0, 5, 0), 1);
        due("smaller", x.lives(0, 6, 0), 1);
        due("the least, of most 0", x.lives(1, 7, 0), 0);
        due("the largest, of most 10", x.lives(2, 3, 0), 0);
        due("the largest, no bound", x.lives(2, 8, 0), 1);
    }

    @Sentence("Terms II: its PERSON has no YEAR of death as known in k")
    static void p17NoYearOfDeath() {
        WaterOffice x = officeOf(100, 2, 10);
        x.death(0, 5, 9);
        due("not known", x.lives(0, 200, 8), 1);
        due("known", x.lives(0, 200, 9), 0);
        due("known at last", x.lives(0, 6, 200), 0);
    }

    @Sentence("Terms II: or y is not above that YEAR and \"heirs\" of y (0 without)")
    static void p17NotAboveTheYearOfDeath() {
        WaterOffice x = officeOf(100, 2, 10);
        x.death(0, 5, 0);
        due("ahead", x.lives(0, 4, 0), 1);
        due("in that year", x.lives(0, 5, 0), 1);
        due("behind", x.lives(0, 6, 0), 0);
        x.death(0, 0, 0);
        due("dead in the first year", x.lives(0, 0, 0), 1);
        due("dead in the first year", x.lives(0, 1, 0), 0);
        x.death(0, 200, 0);
        due("dead in the last year", x.lives(0, 200, 0), 1);
    }

    @Sentence("Terms II: not above that YEAR and \"heirs\" of y")
    static void p17NotAboveTheYearsOfHeirs() {
        WaterOffice x = officeOf(100, 2, 10);
        x.death(0, 5, 0);
        laws(x, "from 0 heirs 3");
        due("last year of heirs", x.lives(0, 8, 0), 1);
        due("behind", x.lives(0, 9, 0), 0);
        laws(x, "from 0 heirs 100000");
        due("last year of all", x.lives(0, 200, 0), 1);
    }

    @Sentence("Terms II: \"heirs\" of y (not of the YEAR of death)")
    static void p17HeirsOfThatYear() {
        WaterOffice x = officeOf(100, 2, 10);
        x.death(0, 5, 0);
        laws(x, "from 0 to 6 heirs 9; from 8 to 8 heirs 3; from 9 to 9 heirs 3");
        due("in 6", x.lives(0, 6, 0), 1);
        due("in 7", x.lives(0, 7, 0), 0);
        due("in 8", x.lives(0, 8, 0), 1);
        due("in 9", x.lives(0, 9, 0), 0);
    }

    @Sentence("Terms II: A RANK that is closed .. gets nothing (a grant LIVES yet)")
    static void p17ClosedGrantLives() {
        WaterOffice x = officeOf(100, 2, 10);
        laws(x, "from 3 close 2");
        due("lives", x.lives(0, 3, 0), 1);
        due("gets", x.gets(0, 3, 0), 0);
    }

    // Promise 18

    @Sentence("Promise 18: NONE (a NOZZLE)")
    static void p18NoSuchNozzle() {
        WaterOffice x = officeOf(100, 0, 10);
        for (int nozzle : new int[] {-1, 1, 80, BIG, SMALL}) {
            due("gets(" + nozzle + ", 0, 0)", x.gets(nozzle, 0, 0), NONE);
        }
        due("status()", x.status(), 0);
    }

    @Sentence("Promise 18: FLOWS of a YEAR as known in another one; NONE (YEARS 0 .. 200)")
    static void p18YearThatCantBe() {
        WaterOffice x = officeOf(100, 0, 10);
        for (int year : NO_YEARS) {
            due("in " + year, x.gets(0, year, 0), NONE);
            due("known in " + year, x.gets(0, 0, year), NONE);
        }
        due("first years", x.gets(0, 0, 0), 10);
        due("last years", x.gets(0, 200, 200), 10);
    }

    @Sentence("Terms III: to its NOZZLES at the CASTLE that are OPEN in y (grants: that LIVE)")
    static void p18OpenAndLivingNozzles() {
        WaterOffice x = office(10);
        x.nozzle(0, 10, 0, 0);
        x.nozzle(0, 10, 2, 0);
        x.death(0, 8, 3);
        x.go(6);
        x.shut(0);
        due("fountain in 5", x.gets(0, 5, 3), 10);
        due("grant in 5", x.gets(1, 5, 3), 0);
        due("fountain in 6", x.gets(0, 6, 3), 0);
        due("grant in 6", x.gets(1, 6, 3), 10);
        due("grant in 8", x.gets(1, 8, 3), 10);
        due("grant in 9", x.gets(1, 9, 3), 0);
        due("grant in 9, death not known", x.gets(1, 9, 2), 10);
    }

    @Sentence("Terms III: if their SIZES together are no more than there is yet, each gets its SIZE")
    static void p18SizesNoMoreThanThereIs() {
        getsDue(officeOf(30, 0, 10, 11, 9), 0, 10, 11, 9);
        getsDue(officeOf(31, 0, 10, 11, 9), 0, 10, 11, 9);
        due("nothing is left", officeOf(30, 0, 10, 11, 9).at(0, 0, 0, WASTE), 0);
        due("one is left", officeOf(31, 0, 10, 11, 9).at(0, 0, 0, WASTE), 1);
    }

    @Sentence("Terms III: else SHARES by SIZES")
    static void p18SharesBySizes() {
        getsDue(officeOf(29, 0, 10, 11, 9), 0, 10, 11, 8);
        getsDue(officeOf(15, 0, 10, 11, 9), 0, 6, 5, 4);
        getsDue(officeOf(0, 0, 10, 11, 9), 0, 0, 0, 0);
        due("all is given", officeOf(29, 0, 10, 11, 9).at(0, 0, 0, GIVEN), 29);
    }

    @Sentence("Terms III: SHARES: each w times its weight / all weights, cut")
    static void p18SharesAreCut() {
        getsDue(officeOf(6, 0, 2, 4, 6), 0, 1, 2, 3);
        getsDue(officeOf(500, 0, 1000, 1), 0, 500, 0);
        getsDue(officeOf(999, 0, 1, 999), 0, 1, 998);
    }

    @Sentence("Terms III: of what is left one each, the lower first")
    static void p18OneEachTheLowerFirst() {
        getsDue(officeOf(1, 0, 5, 5, 5), 0, 1, 0, 0);
        getsDue(officeOf(2, 0, 5, 5, 5), 0, 1, 1, 0);
        getsDue(officeOf(3, 0, 5, 5, 5), 0, 1, 1, 1);
        getsDue(officeOf(1, 0, 1, 1000), 0, 1, 0);
        getsDue(officeOf(4, 0, 1, 1, 1, 1, 1), 0, 1, 1, 1, 1, 0);
    }

    @Sentence("Terms III: one each (of eighty)")
    static void p18SharesOfEighty() {
        WaterOffice x = office(79);
        for (int i = 0; i < 80; i++) {
            x.nozzle(0, 1000, 1, 7);
        }
        for (int i = 0; i < 80; i++) {
            due("gets " + i, x.gets(i, 0, 0), i < 79 ? 1 : 0);
        }
        x.spring(0, 1, 79999);
        for (int i = 0; i < 80; i++) {
            due("gets " + i, x.gets(i, 1, 0), i < 79 ? 1000 : 999);
        }
        x.spring(0, 2, 80000);
        due("the last", x.gets(79, 2, 0), 1000);
    }

    @Sentence("Terms II: ORDER of RANKS: the \"first\" one, then the others from 0 on.")
    static void p18OrderOfRanks() {
        WaterOffice x = office(15);
        x.nozzle(0, 10, 2, 0);
        x.nozzle(0, 10, 1, 0);
        x.nozzle(0, 10, 0, 0);
        laws(x, "from 1 first fountains; from 2 first baths; from 3 first grants");
        getsDue(x, 0, 0, 5, 10);
        getsDue(x, 1, 0, 5, 10);
        getsDue(x, 2, 0, 10, 5);
        getsDue(x, 3, 10, 0, 5);
        x.spring(0, 4, 25);
        getsDue(x, 4, 10, 5, 10);
        x.spring(0, 0, 10);
        getsDue(x, 0, 0, 0, 10);
    }

    @Sentence("Terms II: A RANK that is closed by a LAW in force gets nothing.")
    static void p18ClosedRankGetsNothing() {
        WaterOffice x = office(15);
        x.nozzle(0, 10, 0, 0);
        x.nozzle(0, 10, 1, 0);
        x.nozzle(0, 10, 2, 0);
        laws(x, "from 3 to 4 close 0; from 4 to 6 close 1; from 5 to 6 close 2; from 6 to 6 close 0");
        getsDue(x, 2, 10, 5, 0);
        getsDue(x, 3, 0, 10, 5);
        getsDue(x, 4, 0, 0, 10);
        getsDue(x, 5, 10, 0, 0);
        getsDue(x, 6, 0, 0, 0);
        getsDue(x, 7, 10, 5, 0);
        due("all is waste", x.at(0, 6, 0, WASTE), 15);
    }

    @Sentence("Terms II: A RANK that is closed .. gets nothing (the \"first\" one, too)")
    static void p18ClosedFirstRank() {
        WaterOffice x = office(15);
        x.nozzle(0, 10, 0, 0);
        x.nozzle(0, 10, 1, 0);
        x.nozzle(0, 10, 2, 0);
        laws(x, "from 0 first grants; from 0 close 2");
        getsDue(x, 0, 10, 5, 0);
    }

    // Promise 19

    @Sentence("Promise 19: Of a CASTLE; NONE.")
    static void p19NoSuchCastle() {
        WaterOffice x = office(100);
        for (int castle : new int[] {-1, 1, 12, 100, BIG, SMALL}) {
            due("at(" + castle + ", 0, 0, 0)", x.at(castle, 0, 0, IN), NONE);
        }
        due("status()", x.status(), 0);
    }

    @Sentence("Promise 19: FLOWS of a YEAR as known in another one; NONE (YEARS 0 .. 200).")
    static void p19YearThatCantBe() {
        WaterOffice x = office(100);
        for (int year : NO_YEARS) {
            due("in " + year, x.at(0, year, 0, IN), NONE);
            due("known in " + year, x.at(0, 0, year, IN), NONE);
        }
        due("first years", x.at(0, 0, 0, IN), 100);
        due("last years", x.at(0, 200, 200, IN), 100);
    }

    @Sentence("Promise 19: what 0 .. 6. NONE.")
    static void p19WhatThatCantBe() {
        WaterOffice x = office(100);
        for (int what : new int[] {-1, 7, 8, BIG, SMALL}) {
            due("what " + what, x.at(0, 0, 0, what), NONE);
        }
        due("what 0", x.at(0, 0, 0, 0), 100);
        due("what 6", x.at(0, 0, 0, 6), 100);
    }

    @Sentence("Promise 19: 0 IN, 1 what went into its PIPE, 2 TAPS took, 3 lost, 4 NOZZLES get, 5 goes on, 6 WASTE")
    static void p19EachAmount() {
        WaterOffice x = new WaterOffice();
        x.aqueduct(1000);
        x.castle(0, 900, 100);
        x.castle(100, 200, 0);
        x.tap(0, 100, 0, 0);
        x.nozzle(0, 300, 0, 0);
        int[] want = {720, 900, 100, 80, 300, 200, 220};
        for (int what = 0; what <= 6; what++) {
            due("what " + what, x.at(0, 0, 0, what), want[what]);
        }
    }

    @Sentence("Terms III: an AQUEDUCT's PIPES take, the lower CASTLE first, as much as they carry and there is")
    static void p19AqueductsPipes() {
        WaterOffice x = new WaterOffice();
        x.aqueduct(100);
        x.castle(0, 60, 0);
        x.castle(0, 40, 0);
        x.castle(0, 10, 0);
        int[][] want = {{60, 40, 0}, {60, 39, 0}, {60, 40, 1}, {59, 0, 0}, {60, 0, 0}, {60, 1, 0}, {0, 0, 0},
            {60, 40, 10}};
        int[] yields = {100, 99, 101, 59, 60, 61, 0, 111};
        for (int year = 0; year < yields.length; year++) {
            x.spring(0, year, yields[year]);
            for (int castle = 0; castle < 3; castle++) {
                due("yield " + yields[year] + ", castle " + castle, x.at(castle, year, 0, INTO_PIPE),
                        want[year][castle]);
            }
        }
    }

    @Sentence("Terms III: an AQUEDUCT's PIPES take (each AQUEDUCT its own water)")
    static void p19AqueductsApart() {
        WaterOffice x = new WaterOffice();
        x.aqueduct(10);
        x.aqueduct(20);
        x.castle(1, 15, 0);
        x.castle(0, 15, 0);
        x.castle(1, 15, 0);
        due("castle 0", x.at(0, 0, 0, INTO_PIPE), 15);
        due("castle 1", x.at(1, 0, 0, INTO_PIPE), 10);
        due("castle 2", x.at(2, 0, 0, INTO_PIPE), 5);
    }

    @Sentence("Terms III: of what its NOZZLES leave, as much as they carry, if there is enough for all")
    static void p19EnoughForAllPipes() {
        WaterOffice x = officeWithPipes(60, 10, 20, 30);
        pipesDue(x, 0, 10, 20, 30);
        due("on", x.at(0, 0, 0, ON), 60);
        due("waste", x.at(0, 0, 0, WASTE), 0);
        x.spring(0, 1, 61);
        pipesDue(x, 1, 10, 20, 30);
        due("waste", x.at(0, 1, 0, WASTE), 1);
    }

    @Sentence("Terms III: else SHARES by what they carry")
    static void p19SharesOfPipes() {
        WaterOffice x = officeWithPipes(59, 10, 20, 30);
        pipesDue(x, 0, 10, 20, 29);
        x.spring(0, 1, 1);
        pipesDue(x, 1, 1, 0, 0);
        x.spring(0, 2, 0);
        pipesDue(x, 2, 0, 0, 0);
        x.spring(0, 3, 6);
        pipesDue(x, 3, 1, 2, 3);
        x.spring(0, 4, 8);
        pipesDue(x, 4, 2, 2, 4);
        due("on", x.at(0, 4, 0, ON), 8);
        due("waste", x.at(0, 4, 0, WASTE), 0);
    }

    @Sentence("Terms III: of what its NOZZLES leave")
    static void p19PipesBehindNozzles() {
        WaterOffice x = officeWithPipes(60, 10, 20);
        x.nozzle(0, 30, 1, 0);
        pipesDue(x, 0, 10, 20);
        x.nozzle(0, 1, 0, 0);
        pipesDue(x, 0, 10, 19);
        x.nozzle(0, 29, 0, 0);
        pipesDue(x, 0, 0, 0);
        due("given", x.at(0, 0, 0, GIVEN), 60);
        due("on", x.at(0, 0, 0, ON), 0);
    }

    @Sentence("Terms III: SHARES: w times its weight (100,000 times 100,000 would wrap around)")
    static void p19LargeShares() {
        WaterOffice x = officeWithPipes(100000, 100000, 100000, 99999);
        pipesDue(x, 0, 33334, 33333, 33333);
        x = officeWithPipes(99999, 100000);
        pipesDue(x, 0, 99999);
        x = officeWithPipes(100000, 100000, 1);
        pipesDue(x, 0, 100000, 0);
        x = officeWithPipes(100000, 100000, 100000, 100000, 100000, 100000, 100000, 100000, 100000, 100000, 100000,
                100000);
        pipesDue(x, 0, 9091, 9091, 9091, 9091, 9091, 9091, 9091, 9091, 9091, 9091, 9090);
    }

    @Sentence("Terms III: A PIPE in a REPAIR carries nothing (an AQUEDUCT's)")
    static void p19AqueductsPipeInARepair() {
        WaterOffice x = new WaterOffice();
        x.aqueduct(100);
        x.castle(0, 60, 0);
        x.castle(0, 60, 0);
        x.repair(0, 3, 4);
        for (int year = 2; year <= 5; year++) {
            boolean isIn = year == 3 || year == 4;
            due("castle 0 in " + year, x.at(0, year, 0, INTO_PIPE), isIn ? 0 : 60);
            due("castle 1 in " + year, x.at(1, year, 0, INTO_PIPE), isIn ? 60 : 40);
        }
    }

    @Sentence("Terms III: A PIPE in a REPAIR carries nothing (a CASTLE's)")
    static void p19CastlesPipeInARepair() {
        WaterOffice x = officeWithPipes(50, 30, 30, 30);
        x.repair(1, 3, 3);
        x.repair(1, 4, 4);
        x.repair(2, 4, 4);
        x.repair(3, 4, 4);
        pipesDue(x, 2, 17, 17, 16);
        pipesDue(x, 3, 0, 25, 25);
        pipesDue(x, 4, 0, 0, 0);
        due("waste", x.at(0, 4, 0, WASTE), 50);
        pipesDue(x, 5, 17, 17, 16);
    }

    @Sentence("Terms III: A PIPE in a REPAIR carries nothing; of what is left one each, the lower first")
    static void p19PipeInARepairHasNothingOfWhatIsLeft() {
        WaterOffice x = officeWithPipes(51, 30, 30, 30);
        x.repair(1, 3, 3);
        pipesDue(x, 3, 0, 26, 25);
        x.spring(0, 3, 1);
        pipesDue(x, 3, 0, 1, 0);
    }

    @Sentence("Terms III: From what goes into a PIPE TAPS of that YEAR take theirs (as far as there is)")
    static void p19TapsAsFarAsThereIs() {
        WaterOffice x = office(100);
        x.tap(0, 60, 0, 2);
        x.tap(0, 40, 1, 3);
        x.tap(0, 1, 2, 2);
        int[] tapped = {60, 100, 100, 40, 0};
        for (int year = 0; year < tapped.length; year++) {
            due("tapped in " + year, x.at(0, year, 0, TAPPED), tapped[year]);
            due("in of " + year, x.at(0, year, 0, IN), 100 - tapped[year]);
            due("into the pipe in " + year, x.at(0, year, 0, INTO_PIPE), 100);
        }
        x.repair(0, 0, 0);
        due("nothing there", x.at(0, 0, 0, TAPPED), 0);
    }

    @Sentence("Terms III: of the rest LOSS / 1000, cut, is lost; the rest is IN")
    static void p19LossIsCut() {
        int[][] rows = {{999, 1, 0}, {1000, 1, 1}, {1001, 1, 1}, {1, 999, 0}, {2, 999, 1}, {1, 1000, 1}, {0, 1000, 0},
            {100000, 999, 99900}, {99999, 999, 99899}, {3, 333, 0}, {4, 333, 1}, {7, 0, 0}};
        for (int[] row : rows) {
            WaterOffice x = new WaterOffice();
            x.aqueduct(row[0]);
            x.castle(0, 100000, row[1]);
            due("lost of " + row[0] + " by " + row[1], x.at(0, 0, 0, LOST), row[2]);
            due("in of " + row[0] + " by " + row[1], x.at(0, 0, 0, IN), row[0] - row[2]);
        }
    }

    @Sentence("Terms III: of the rest LOSS / 1000 (the rest behind TAPS)")
    static void p19LossBehindTaps() {
        WaterOffice x = new WaterOffice();
        x.aqueduct(100);
        x.castle(0, 100, 100);
        x.tap(0, 1, 0, 0);
        x.tap(0, 90, 1, 1);
        x.tap(0, 91, 2, 2);
        due("of 99", x.at(0, 0, 0, LOST), 9);
        due("of 10", x.at(0, 1, 0, LOST), 1);
        due("of 9", x.at(0, 2, 0, LOST), 0);
        due("of 100", x.at(0, 3, 0, LOST), 10);
    }

    @Sentence("Terms III: CASTLES in order: IN")
    static void p19RowOfCastles() {
        WaterOffice x = new WaterOffice();
        x.aqueduct(1024);
        x.castle(0, 100000, 500);
        for (int i = 1; i < 12; i++) {
            x.castle(99 + i, 100000, 500);
        }
        for (int i = 0; i < 12; i++) {
            due("in " + i, x.at(i, 0, 0, IN), Math.max(1, 512 >> i));
        }
    }

    @Sentence("Terms III: What neither NOZZLES nor PIPES take is WASTE.")
    static void p19Waste() {
        WaterOffice x = office(100);
        due("without both", x.at(0, 0, 0, WASTE), 100);
        x.nozzle(0, 30, 0, 0);
        due("without pipes", x.at(0, 0, 0, WASTE), 70);
        x.castle(100, 69, 0);
        due("one is left", x.at(0, 0, 0, WASTE), 1);
        x.castle(100, 1, 0);
        due("none is left", x.at(0, 0, 0, WASTE), 0);
        due("on", x.at(0, 0, 0, ON), 70);
        due("waste at the end", x.at(1, 0, 0, WASTE), 69);
    }

    @Sentence("Terms III: FLOWS of a YEAR y, as known in k")
    static void p19FlowsAsKnown() {
        WaterOffice x = officeWithPipes(100, 100);
        x.nozzle(0, 60, 2, 0);
        x.death(0, 3, 7);
        due("not known", x.at(0, 4, 6, GIVEN), 60);
        due("known", x.at(0, 4, 7, GIVEN), 0);
        due("not known, on", x.at(1, 4, 6, IN), 40);
        due("known, on", x.at(1, 4, 7, IN), 100);
        due("known, the year of death", x.at(0, 3, 7, GIVEN), 60);
    }

    // Promise 20

    @Sentence("Promise 20: Whether a QUARTER is DRY (QUARTER 0 .. 7); NONE.")
    static void p20QuarterThatCantBe() {
        WaterOffice x = office(100);
        due("first", x.dry(0, 0, 0), 0);
        due("last", x.dry(7, 0, 0), 0);
        for (int quarter : new int[] {-1, 8, BIG, SMALL}) {
            due("dry(" + quarter + ", 0, 0)", x.dry(quarter, 0, 0), NONE);
        }
        due("status()", x.status(), 0);
    }

    @Sentence("Promise 20: in a YEAR, as known in another one; NONE (YEARS 0 .. 200).")
    static void p20YearThatCantBe() {
        WaterOffice x = officeOf(0, 0, 10);
        for (int year : NO_YEARS) {
            due("in " + year, x.dry(0, year, 0), NONE);
            due("known in " + year, x.dry(0, 0, year), NONE);
        }
        due("first years", x.dry(0, 0, 0), 1);
        due("last years", x.dry(0, 200, 200), 1);
    }

    @Sentence("Terms III: DRY: these get less than half of their SIZES together")
    static void p20LessThanHalf() {
        int[][] rows = {{5, 10, 0}, {4, 10, 1}, {6, 10, 0}, {5, 11, 1}, {6, 11, 0}, {0, 1, 1}, {1, 1, 0}, {1, 2, 0},
            {1, 3, 1}, {499, 1000, 1}, {500, 1000, 0}};
        for (int[] row : rows) {
            due(row[0] + " of " + row[1], officeOf(row[0], 0, row[1]).dry(0, 0, 0), row[2]);
        }
    }

    @Sentence("Terms III: DRY: of their SIZES together (fountains and baths of the QUARTER)")
    static void p20SizesTogether() {
        WaterOffice x = office(10);
        x.nozzle(0, 10, 0, 4);
        x.nozzle(0, 10, 1, 4);
        due("half together", x.dry(4, 0, 0), 0);
        x.nozzle(0, 1, 1, 4);
        due("less than half together", x.dry(4, 0, 0), 1);
        WaterOffice z = office(10);
        z.castle(0, 1, 0);
        z.nozzle(0, 10, 0, 4);
        z.nozzle(1, 10, 0, 4);
        due("at two castles", z.dry(4, 0, 0), 0);
        z.nozzle(1, 1, 0, 4);
        due("at two castles, one more", z.dry(4, 0, 0), 1);
    }

    @Sentence("Terms III: DRY: a QUARTER in a YEAR in which it has OPEN NOZZLES")
    static void p20WithoutOpenNozzles() {
        WaterOffice x = office(0);
        x.go(3);
        x.nozzle(0, 10, 0, 4);
        x.go(3);
        x.shut(0);
        int[] dry = {0, 1, 1, 1, 0};
        for (int year = 2; year <= 6; year++) {
            due("in " + year, x.dry(4, year, 0), dry[year - 2]);
            due("another one in " + year, x.dry(3, year, 0), 0);
        }
    }

    @Sentence("Terms III: DRY: of their SIZES together (of eighty NOZZLES)")
    static void p20EightyNozzles() {
        WaterOffice x = office(40000);
        for (int i = 0; i < 80; i++) {
            x.nozzle(0, 1000, 1, 7);
        }
        x.spring(0, 1, 39999);
        due("half", x.dry(7, 0, 0), 0);
        due("less than half", x.dry(7, 1, 0), 1);
        due("another quarter", x.dry(0, 1, 0), 0);
    }

    @Sentence("Terms III: DRY: has OPEN NOZZLES and these get less (shut ones are not counted)")
    static void p20ShutNozzlesAreNotCounted() {
        WaterOffice x = office(10);
        x.nozzle(0, 10, 0, 4);
        x.nozzle(0, 11, 1, 4);
        x.go(1);
        x.shut(1);
        due("both", x.dry(4, 0, 0), 1);
        due("one", x.dry(4, 1, 0), 0);
    }

    @Sentence("Terms III: DRY: its NOZZLES (grants are for a PERSON)")
    static void p20GrantsAreForNoQuarter() {
        WaterOffice x = officeOf(0, 2, 10);
        due("grant alone", x.dry(0, 0, 0), 0);
        WaterOffice z = office(4);
        z.nozzle(0, 10, 0, 0);
        z.nozzle(0, 10, 2, 0);
        due("the grant gets nothing", z.dry(0, 0, 0), 1);
        laws(z, "from 1 first grants");
        z.spring(0, 1, 14);
        due("the grant gets 10", z.dry(0, 1, 0), 1);
    }

    @Sentence("Terms III: DRY; Terms II: A RANK that is closed .. gets nothing (its NOZZLES are OPEN yet)")
    static void p20ClosedRankIsDry() {
        WaterOffice x = officeOf(100, 0, 10);
        laws(x, "from 3 to 3 close 0");
        due("ahead", x.dry(0, 2, 0), 0);
        due("closed", x.dry(0, 3, 0), 1);
        due("behind", x.dry(0, 4, 0), 0);
    }

    @Sentence("Promise 20: as known in another one")
    static void p20AsKnown() {
        WaterOffice x = office(10);
        x.nozzle(0, 10, 2, 0);
        x.nozzle(0, 10, 0, 5);
        x.death(0, 2, 6);
        laws(x, "from 0 first grants");
        due("not known", x.dry(5, 3, 5), 1);
        due("known", x.dry(5, 3, 6), 0);
        due("known, the year of death", x.dry(5, 2, 6), 1);
    }

    // Promise 21

    @Sentence("Promise 21: FOUND for a CASTLE; NONE.")
    static void p21NoSuchCastle() {
        WaterOffice x = office(100);
        for (int castle : new int[] {-1, 1, 12, 100, BIG, SMALL}) {
            due("found(" + castle + ", 0)", x.found(castle, 0), NONE);
        }
        due("status()", x.status(), 0);
    }

    @Sentence("Promise 21: in a YEAR; NONE (YEARS 0 .. 200).")
    static void p21YearThatCantBe() {
        WaterOffice x = office(100);
        x.tap(0, 3, 0, 200);
        for (int year : NO_YEARS) {
            due("found(0, " + year + ")", x.found(0, year), NONE);
        }
        due("first year", x.found(0, 0), 3);
        due("last year", x.found(0, 200), 3);
    }

    @Sentence("Terms III: FOUND: the least t from 0 on (0)")
    static void p21NothingFound() {
        WaterOffice x = new WaterOffice();
        x.aqueduct(100);
        x.castle(0, 100, 333);
        due("without taps", x.found(0, 0), 0);
        x.repair(0, 1, 1);
        x.tap(0, 50, 1, 1);
        due("in a repair", x.found(0, 1), 0);
        x.spring(0, 2, 0);
        x.tap(0, 50, 2, 2);
        due("without water", x.found(0, 2), 0);
    }

    @Sentence("Terms III: FOUND: what went into its PIPE, less t, would come out as IN behind LOSS (no LOSS)")
    static void p21AllThatWasTapped() {
        WaterOffice x = office(100000);
        x.tap(0, 1, 0, 0);
        x.tap(0, 10000, 1, 2);
        x.tap(0, 10000, 2, 2);
        due("1", x.found(0, 0), 1);
        due("10,000", x.found(0, 1), 10000);
        due("20,000", x.found(0, 2), 20000);
        x.spring(0, 2, 12345);
        due("all there was", x.found(0, 2), 12345);
    }

    @Sentence("Terms III: FOUND: the least t (that TAPS took more is not seen behind LOSS)")
    static void p21LeastThatComesOutAlike() {
        int[][] rows = {{10, 500, 1, 0}, {10, 500, 2, 2}, {10, 500, 3, 2}, {9, 500, 1, 1}, {9, 500, 2, 1},
            {1000, 999, 999, 0}, {1000, 999, 1000, 1000}, {1001, 999, 1, 1}, {1001, 999, 1000, 1}, {2001, 999, 2, 1}};
        for (int[] row : rows) {
            WaterOffice x = new WaterOffice();
            x.aqueduct(row[0]);
            x.castle(0, 100000, row[1]);
            x.tap(0, row[2], 0, 0);
            due("found of " + row[2] + " of " + row[0], x.found(0, 0), row[3]);
        }
    }

    @Sentence("Terms III: FOUND: behind LOSS (all is lost)")
    static void p21AllIsLost() {
        WaterOffice x = new WaterOffice();
        x.aqueduct(100);
        x.castle(0, 100, 1000);
        x.tap(0, 60, 0, 1);
        x.tap(0, 60, 1, 1);
        due("some is tapped", x.found(0, 0), 0);
        due("all is tapped", x.found(0, 1), 0);
    }

    @Sentence("Promise 21: (as known in NOW)")
    static void p21AsKnownInNow() {
        WaterOffice x = officeWithPipes(100, 100);
        x.nozzle(0, 70, 2, 0);
        x.tap(1, 50, 0, 200);
        x.death(0, 2, 6);
        x.go(5);
        due("not known in 5", x.found(1, 3), 30);
        x.go(1);
        due("known in 6", x.found(1, 3), 50);
        due("known in 6, the year of death", x.found(1, 2), 30);
    }
}
