import java.util.List;

/** The bounds of the tape, of the texts on it and of the laws in force: Terms II, promises 12 to 16. */
public final class TextBoundsTest extends Check {
    private static final int FIRST = 0;
    private static final int HEIRS = 1;
    private static final int RENT = 2;
    private static final int FINE = 3;
    private static final int MOST = 4;
    private static final int CLOSED = 5;
    private static final String SHORT_LAW = "from0rent0";

    public static void main(String[] args) {
        runSentences(TextBoundsTest.class);
    }

    private static int number(String fourBytes) {
        int n = 0;
        for (int i = 0; i < 4; i++) {
            n = n << 8 | fourBytes.charAt(i);
        }
        return n;
    }

    private static int feedBlanks(WaterOffice x) {
        int blanks = number("    ");
        return x.feed(blanks, blanks, blanks, blanks, blanks);
    }

    private static WaterOffice inForce(String text) {
        WaterOffice x = new WaterOffice();
        due("laws of \"" + text + "\" are taken", laws(x, text) > 0 ? 1 : 0, 1);
        return x;
    }

    // Promise 12

    @Sentence("Promise 12: Twenty bytes come behind the TAPE, four of each number, the highest first")
    static void p12HighestByteFirst() {
        WaterOffice x = new WaterOffice();
        due("feed", x.feed(number("from"), number(" 12 "), number("fine"), number(" 345"), number("67  ")), 20);
        due("end", x.end(18), 18);
        due("laws", x.laws(), 1);
        due("law", x.law(12, FINE), 34567);
    }

    @Sentence("Promise 12: four of each number (one below 0)")
    static void p12NumbersBelowZero() {
        for (int shift = 0; shift < 32; shift += 8) {
            int spoilt = number("    ") | 255 << shift;
            WaterOffice x = new WaterOffice();
            due("feed", x.feed(number("    "), spoilt, number("    "), -1, SMALL), 20);
            due("laws", x.laws(), -6);
            due("fault", x.fault(), 4 + 3 - shift / 8);
        }
    }

    @Sentence("Promise 12: come behind the TAPE: how many it has")
    static void p12BehindWhatIsThere() {
        WaterOffice x = new WaterOffice();
        write(x, "from 3");
        write(x, "0 re");
        write(x, "nt 44");
        due("count(9)", x.count(9), 15);
        due("laws", x.laws(), 1);
        due("law(30, 2)", x.law(30, RENT), 44);
    }

    @Sentence("Promise 12: NONE, if there would be more than 400.")
    static void p12FullTape() {
        WaterOffice x = new WaterOffice();
        for (int i = 1; i <= 20; i++) {
            due("feed", feedBlanks(x), 20 * i);
        }
        due("one more", feedBlanks(x), NONE);
        due("count(9)", x.count(9), 400);
    }

    @Sentence("Promise 12: NONE, if there would be more than 400 (401, 400).")
    static void p12JustFullTape() {
        WaterOffice x = new WaterOffice();
        for (int i = 1; i <= 20; i++) {
            feedBlanks(x);
        }
        x.end(381);
        due("to 401", feedBlanks(x), NONE);
        due("count(9)", x.count(9), 381);
        x.end(380);
        due("to 400", feedBlanks(x), 400);
    }

    @Sentence("Promise 12: NONE (the TAPE stays)")
    static void p12RefusedBytesAreNotOnTheTape() {
        WaterOffice x = new WaterOffice();
        write(x, "from 0 rent " + " ".repeat(378) + "7");
        due("count(9)", x.count(9), 391);
        due("feed", x.feed(number("8;;;"), 0, 0, 0, 0), NONE);
        due("count(9)", x.count(9), 391);
        due("laws", x.laws(), 1);
        due("law", x.law(0, RENT), 7);
    }

    @Sentence("Promise 12: feed is not REFUSED by a code (status)")
    static void p12StatusStays() {
        WaterOffice x = new WaterOffice();
        for (int i = 1; i <= 21; i++) {
            feedBlanks(x);
        }
        due("status()", x.status(), 0);
        x.shut(0);
        x.end(0);
        due("feed", feedBlanks(x), 20);
        due("status()", x.status(), -2);
    }

    // Promise 13

    @Sentence("Promise 13: The TAPE has its first n bytes alone: n.")
    static void p13FirstBytesAlone() {
        WaterOffice x = new WaterOffice();
        write(x, "from 5 rent 12345");
        due("end", x.end(14), 14);
        due("count(9)", x.count(9), 14);
        write(x, "6");
        due("laws", x.laws(), 1);
        due("law", x.law(5, RENT), 126);
    }

    @Sentence("Promise 13: its first n bytes (none, all)")
    static void p13NoneAndAll() {
        WaterOffice x = new WaterOffice();
        due("of the empty tape", x.end(0), 0);
        feedBlanks(x);
        due("all", x.end(20), 20);
        due("count(9)", x.count(9), 20);
        due("none", x.end(0), 0);
        due("count(9)", x.count(9), 0);
        for (int i = 1; i <= 20; i++) {
            feedBlanks(x);
        }
        due("all of the full tape", x.end(400), 400);
    }

    @Sentence("Promise 13: NONE, if it has not so many")
    static void p13NotSoMany() {
        WaterOffice x = new WaterOffice();
        due("of the empty tape", x.end(1), NONE);
        feedBlanks(x);
        due("one too many", x.end(21), NONE);
        due("far too many", x.end(BIG), NONE);
        due("count(9)", x.count(9), 20);
        x.end(5);
        due("those that are gone", x.end(6), NONE);
        due("count(9)", x.count(9), 5);
        for (int i = 1; i <= 19; i++) {
            feedBlanks(x);
        }
        due("more than there can be", x.end(401), NONE);
        due("status()", x.status(), 0);
    }

    @Sentence("Promise 13: NONE, if .. n is below 0.")
    static void p13BelowZero() {
        WaterOffice x = new WaterOffice();
        feedBlanks(x);
        due("-1", x.end(-1), NONE);
        due("far below", x.end(SMALL), NONE);
        due("count(9)", x.count(9), 20);
        due("status()", x.status(), 0);
    }

    // Promises 14 and 15: the text

    @Sentence("Terms II: LAWS are a TEXT of at most 400 bytes")
    static void p14TextOf400Bytes() {
        WaterOffice x = new WaterOffice();
        write(x, "from 0 rent" + " ".repeat(388) + "7");
        due("count(9)", x.count(9), 400);
        due("laws", x.laws(), 1);
        due("law", x.law(0, RENT), 7);
        goodText(" ".repeat(400), 0);
        badText(" ".repeat(399) + "x", 399);
        badText(" ".repeat(396) + "from", 400);
    }

    @Sentence("Promise 14: The TAPE, which is empty then, becomes LAWS: how many")
    static void p14TapeIsEmptyThen() {
        WaterOffice x = new WaterOffice();
        due("laws", laws(x, "from 0 rent 1; from 0 fine 1"), 2);
        due("count(9)", x.count(9), 0);
        due("end", x.end(1), NONE);
        due("laws", laws(x, "x"), -6);
        due("count(9)", x.count(9), 0);
        due("end", x.end(1), NONE);
    }

    @Sentence("Promise 14: becomes LAWS (in place of those that were)")
    static void p14LawsAreReplaced() {
        WaterOffice x = inForce("from 0 rent 1; from 0 fine 2; from 0 close 1");
        due("laws", laws(x, "from 0 heirs 3"), 1);
        due("count(8)", x.count(8), 1);
        due("heirs", x.law(0, HEIRS), 3);
        due("rent", x.law(0, RENT), 0);
        due("fine", x.law(0, FINE), 0);
        due("closed", x.law(0, CLOSED + 1), 0);
    }

    @Sentence("Promise 14: (blanks alone: none)")
    static void p14BlanksAlone() {
        goodText(" ", 0);
        goodText("  ", 0);
        goodText(" ".repeat(399), 0);
        WaterOffice x = inForce("from 0 rent 1");
        due("laws", laws(x, " "), 0);
        due("count(8)", x.count(8), 0);
        due("rent", x.law(0, RENT), 0);
    }

    @Sentence("Terms I: -6 .. or there is none; Terms II: the end's: the TEXT's length")
    static void p14NoText() {
        WaterOffice x = inForce("from 0 rent 1");
        due("laws", x.laws(), -6);
        due("fault", x.fault(), 0);
        due("status()", x.status(), -6);
        due("count(8)", x.count(8), 1);
        due("rent", x.law(0, RENT), 1);
    }

    @Sentence("Promise 14: -6: they stay")
    static void p14LawsStayIfRefused() {
        WaterOffice x = inForce("from 0 rent 1; from 3 fine 2");
        due("laws", laws(x, "from 0 rent 5; from 3 close 0; from 4 most 7; from 5 x"), -6);
        due("status()", x.status(), -6);
        due("count(8)", x.count(8), 2);
        due("rent", x.law(0, RENT), 1);
        due("fine", x.law(3, FINE), 2);
        due("closed", x.law(3, CLOSED), 0);
        due("most", x.law(4, MOST), NONE);
        WaterOffice z = new WaterOffice();
        due("laws", laws(z, "from 0 rent 5;"), -6);
        due("count(8)", z.count(8), 0);
        due("rent", z.law(0, RENT), 0);
    }

    @Sentence("Promise 15: FAULT of the latest laws(): its place; NONE without.")
    static void p15FaultOfTheLatest() {
        WaterOffice x = new WaterOffice();
        due("ahead of any", x.fault(), NONE);
        laws(x, "  x");
        due("fault", x.fault(), 2);
        write(x, "from 0 rent 1");
        x.shut(0);
        due("until the next laws()", x.fault(), 2);
        due("laws", x.laws(), 1);
        due("without", x.fault(), NONE);
        laws(x, "from x");
        due("fault", x.fault(), 5);
        laws(x, " ");
        due("without", x.fault(), NONE);
    }

    @Sentence("Terms II: any blanks (32) between TOKENS (none)")
    static void p14NoBlanks() {
        WaterOffice x = inForce("from0to7rent9;from8close2;from9to9heirs5");
        due("count(8)", x.count(8), 3);
        due("rent", x.law(7, RENT), 9);
        due("closed", x.law(8, CLOSED + 2), 1);
        due("heirs", x.law(9, HEIRS), 5);
    }

    @Sentence("Terms II: any blanks (32) between TOKENS (many)")
    static void p14ManyBlanks() {
        WaterOffice x = inForce("   from   0   to   7   rent   9   ;   from   8   first   baths   ");
        due("count(8)", x.count(8), 2);
        due("rent", x.law(7, RENT), 9);
        due("first", x.law(8, FIRST), 1);
    }

    @Sentence("Terms II: blanks (32): no other byte is one")
    static void p14OtherBytesAreNoBlanks() {
        for (int b = 0; b < 256; b++) {
            boolean isInToken = b >= 'a' && b <= 'z' || b >= '0' && b <= '9';
            if (b != ' ' && !isInToken) {
                badText("from" + (char) b + "5 rent 1", 4);
                badText((char) b + "from 5 rent 1", 0);
            }
            if (b != ' ' && b != ';' && !isInToken) {
                badText("from 5 rent 1" + (char) b, 13);
            }
        }
    }

    @Sentence("Terms II: TOKENS (longest rows of letters a .. z)")
    static void p14LongestRowsOfLetters() {
        badText("froma 5 rent 1", 0);
        badText("fromz 5 rent 1", 0);
        badText("fro 5 rent 1", 0);
        badText("fromfrom 5 rent 1", 0);
        badText("f rom 5 rent 1", 0);
        badText("from 5 torent 1", 7);
        badText("from 5 to 6 tofine 1", 12);
        badText("from 5 firstbaths", 7);
        badText("from 5 first bathsx", 13);
        badText("from 5 first bath", 13);
        badText("from 5 first grantss", 13);
        badText("from 5 rents 1", 7);
        badText("from 5 ren 1", 7);
    }

    /** A word that differs in one letter is another one. */
    private static void noOtherWord(String ahead, String word, String behind) {
        goodText(ahead + word + behind, 1);
        for (int i = 0; i < word.length(); i++) {
            char other = word.charAt(i) == 'q' ? 'p' : 'q';
            String wrong = word.substring(0, i) + other + word.substring(i + 1);
            badText(ahead + wrong + behind, ahead.length());
            badText(ahead + word.substring(0, i) + word.substring(i + 1) + behind, ahead.length());
        }
    }

    @Sentence("Terms II: \"from\", \"to\", \"first\", .. (each letter of a word)")
    static void p14EachLetterOfAWord() {
        noOtherWord("", "from", " 5 rent 1");
        noOtherWord("from 5 ", "to", " 6 rent 1");
        noOtherWord("from 5 ", "first", " baths");
        for (String kind : new String[] {"heirs", "rent", "fine", "most", "close"}) {
            noOtherWord("from 5 ", kind, " 1");
            noOtherWord("from 5 to 6 ", kind, " 1");
        }
        for (String rank : new String[] {"fountains", "baths", "grants"}) {
            noOtherWord("from 5 first ", rank, "");
        }
    }

    @Sentence("Terms II: letters a .. z (capitals are none)")
    static void p14CapitalsAreOtherBytes() {
        badText("From 5 rent 1", 0);
        badText("froM 5 rent 1", 0);
        badText("from 5 Rent 1", 7);
        badText("from 5 renT 1", 7);
        badText("from 5 rentT 1", 11);
    }

    @Sentence("Terms II: TOKENS (longest rows .. of digits)")
    static void p14LongestRowsOfDigits() {
        badText("from 1 0 rent 1", 7);
        badText("from 5 rent 1 0", 14);
        badText("from 5 close 00 0", 16);
        badText("from 5 rent 1/", 13);
        badText("from 5 rent 1:", 13);
        WaterOffice x = inForce("from 5 rent 1234");
        due("rent", x.law(5, RENT), 1234);
        x = inForce("from 5 rent 9876; from 5 fine 50");
        due("rent", x.law(5, RENT), 9876);
        due("fine", x.law(5, FINE), 50);
    }

    @Sentence("Terms II: TOKENS (single other bytes)")
    static void p14SingleOtherBytes() {
        badText("from 5 rent 1;;from 5 rent 1", 14);
        badText("from 5 rent 1,,", 13);
        badText("from 5 rent -1", 12);
        badText("from 5 rent +1", 12);
        badText("from 5 rent 1.0", 13);
        goodText("from 5 rent 1;from 5 rent 1", 2);
    }

    /** In each place of a law: each token that can't go on there is the fault, and so is the end. */
    private static void onlyThese(String ahead, String... good) {
        String[] all = {"from", "to", "first", "fountains", "baths", "grants", "heirs", "rent", "fine", "most",
            "close", "x", "law", "0", "2", "3", "4", "5", "200", "201", "100000", "100001", ";", ",", "-", "A", "\0",
            "\u00ff"};
        for (String token : all) {
            if (!List.of(good).contains(token)) {
                badText(ahead + token, ahead.length());
                badText(ahead + token + " 5 rent 1", ahead.length());
            }
        }
        badText(ahead, ahead.length());
        badText(ahead + "  ", ahead.length() + 2);
    }

    @Sentence("Terms II: LAW: \"from\"; FAULT: the first TOKEN that can't go on there")
    static void p14LawBeginsWithFrom() {
        onlyThese("from 5 rent 1; ", "from");
        onlyThese("from 5 rent 1;", "from");
        badText("; from 5 rent 1", 0);
        badText("rent 1", 0);
        badText(" 5 rent 1", 1);
    }

    @Sentence("Terms II: \"from\" YEAR")
    static void p14FromYear() {
        onlyThese("from ", "0", "2", "3", "4", "5", "200");
    }

    @Sentence("Terms II: \"from\" YEAR [\"to\" YEAR] (\"first\" .. | \"heirs\" .. | \"rent\" .. | \"fine\" .. | \"most\" .. | \"close\" ..)")
    static void p14BehindTheFirstYear() {
        onlyThese("from 4 ", "to", "first", "heirs", "rent", "fine", "most", "close");
    }

    @Sentence("Terms II: \"to\" YEAR")
    static void p14ToYear() {
        onlyThese("from 4 to ", "4", "5", "200");
    }

    @Sentence("Terms II: \"to\" YEAR (\"first\" .. | \"heirs\" .. | \"rent\" .. | \"fine\" .. | \"most\" .. | \"close\" ..)")
    static void p14BehindTheSecondYear() {
        onlyThese("from 4 to 5 ", "first", "heirs", "rent", "fine", "most", "close");
    }

    @Sentence("Terms II: \"first\" (\"fountains\" | \"baths\" | \"grants\")")
    static void p14FirstName() {
        onlyThese("from 4 first ", "fountains", "baths", "grants");
        due("fountains", inForce("from 0 first baths; from 4 first fountains").law(4, FIRST), 0);
        due("baths", inForce("from 4 first baths").law(4, FIRST), 1);
        due("grants", inForce("from 4 first grants").law(4, FIRST), 2);
    }

    @Sentence("Terms II: \"heirs\" NUMBER | \"rent\" NUMBER | \"fine\" NUMBER | \"most\" NUMBER")
    static void p14KindNumber() {
        String[] kinds = {"heirs", "rent", "fine", "most"};
        for (int i = 0; i < 4; i++) {
            onlyThese("from 4 " + kinds[i] + " ", "0", "2", "3", "4", "5", "200", "201", "100000");
            WaterOffice x = inForce("from 4 " + kinds[i] + " 77");
            for (int what = FIRST; what <= CLOSED + 2; what++) {
                int without = what == MOST ? NONE : 0;
                due(kinds[i] + " " + what, x.law(4, what), what == HEIRS + i ? 77 : without);
            }
        }
    }

    @Sentence("Terms II: \"close\" RANK")
    static void p14CloseRank() {
        onlyThese("from 4 close ", "0", "2");
        for (int rank = 0; rank <= 2; rank++) {
            WaterOffice x = inForce("from 4 close " + rank);
            for (int other = 0; other <= 2; other++) {
                due("close " + rank, x.law(4, CLOSED + other), rank == other ? 1 : 0);
            }
        }
    }

    @Sentence("Terms II: LAW {\";\" LAW}")
    static void p14BehindALaw() {
        for (String law : new String[] {"from 4 rent 1 ", "from 4 to 5 first baths ", "from 4 close 1 "}) {
            for (String token : new String[] {"from", "to", "rent", "x", "5", ",", ":", "first", "\0"}) {
                badText(law + token, law.length());
            }
            goodText(law, 1);
            goodText(law + ";" + law, 2);
            badText(law + ";", law.length() + 1);
            badText(law + ";  ", law.length() + 3);
        }
    }

    @Sentence("Terms II: YEARS to 200")
    static void p14YearsTo200() {
        goodText("from 200 rent 1", 1);
        goodText("from 0 to 200 rent 1", 1);
        goodText("from 200 to 200 rent 1", 1);
        badText("from 201 rent 1", 5);
        badText("from 0 to 201 rent 1", 10);
        badText("from 1000 rent 1", 5);
        due("in 200", inForce("from 200 rent 1").law(200, RENT), 1);
        due("in 199", inForce("from 200 rent 1").law(199, RENT), 0);
    }

    @Sentence("Terms II: (the second not below the first)")
    static void p14SecondNotBelowTheFirst() {
        badText("from 5 to 4 rent 1", 10);
        badText("from 200 to 0 rent 1", 12);
        badText("from 1 to 0 rent 1", 10);
        WaterOffice x = inForce("from 5 to 5 rent 1");
        due("in 4", x.law(4, RENT), 0);
        due("in 5", x.law(5, RENT), 1);
        due("in 6", x.law(6, RENT), 0);
    }

    @Sentence("Terms II: (without it to 200)")
    static void p14WithoutTheSecondTo200() {
        WaterOffice x = inForce("from 5 rent 1");
        due("in 4", x.law(4, RENT), 0);
        due("in 5", x.law(5, RENT), 1);
        due("in 6", x.law(6, RENT), 1);
        due("in 200", x.law(200, RENT), 1);
    }

    @Sentence("Terms II: NUMBERS to 100,000")
    static void p14NumbersTo100000() {
        String[] kinds = {"heirs", "rent", "fine", "most"};
        for (int i = 0; i < 4; i++) {
            String law = "from 5 " + kinds[i] + " ";
            due(law + 100000, inForce(law + "100000").law(5, HEIRS + i), 100000);
            due(law + 0, inForce(law + "0").law(5, HEIRS + i), 0);
            badText(law + "100001", law.length());
            badText(law + "999999", law.length());
        }
    }

    @Sentence("Terms II: YEARS to 200, NUMBERS to 100,000, RANKS 0 .. 2 (rows of digits that would wrap around)")
    static void p14LongRowsOfDigits() {
        String[] numbers = {"2147483648", "4294967296", "4294967297", "4294967301", "6442450945",
            "18446744073709551616", "18446744073709551621", "340282366920938463463374607431768211457",
            "1" + "0".repeat(300)};
        for (String number : numbers) {
            badText("from " + number + " rent 1", 5);
            badText("from 0 to " + number + " rent 1", 10);
            badText("from 5 rent " + number, 12);
            badText("from 5 close " + number, 13);
        }
    }

    @Sentence("Terms II: rows .. of digits (with zeros ahead)")
    static void p14ZerosAhead() {
        WaterOffice x = inForce("from 00000000005 to 0000000000000200 rent 00000000000000100000; from 0 close 000001");
        due("in 4", x.law(4, RENT), 0);
        due("in 5", x.law(5, RENT), 100000);
        due("closed", x.law(0, CLOSED + 1), 1);
    }

    @Sentence("Terms II: RANKS 0 .. 2")
    static void p14RanksTo2() {
        goodText("from 5 close 0", 1);
        goodText("from 5 close 2", 1);
        badText("from 5 close 3", 13);
        badText("from 5 close 10", 13);
        badText("from 5 close -1", 13);
    }

    @Sentence("Terms II: FAULT: the first TOKEN that can't go on there (of several)")
    static void p14FirstFaultOfSeveral() {
        badText("from 5 x 201 y ; z", 7);
        badText("from 5 rent 1; from 201; x", 20);
        badText(SHORT_LAW + ";x;" + (SHORT_LAW + ";").repeat(30), 11);
    }

    @Sentence("Terms II: (the end's: the TEXT's length)")
    static void p14EndsFault() {
        badText("from", 4);
        badText("from    ", 8);
        badText("from 5", 6);
        badText("from 5 to", 9);
        badText("from 5 to 6 ", 12);
        badText("from 5 first", 12);
        badText("from 5 close ", 13);
        badText("from 5 rent 1;", 14);
        badText("from 5 rent 1;   ", 17);
    }

    @Sentence("Terms II: 30 LAWS at most")
    static void p14ThirtyLaws() {
        StringBuilder text = new StringBuilder();
        for (int i = 0; i < 30; i++) {
            text.append(i == 0 ? "" : ";").append("from").append(i).append("rent").append(i % 10);
        }
        WaterOffice x = inForce(text.toString());
        due("count(8)", x.count(8), 30);
        for (int year = 0; year < 30; year++) {
            due("in " + year, x.law(year, RENT), year % 10);
        }
        goodText((SHORT_LAW + ";").repeat(29) + SHORT_LAW + "   ", 30);
    }

    @Sentence("Terms II: 30 LAWS at most (the 31st's first TOKEN)")
    static void p14ThirtyFirstLaw() {
        String thirty = (SHORT_LAW + ";").repeat(30);
        badText(thirty + SHORT_LAW, 330);
        badText(thirty + "   " + SHORT_LAW, 333);
        badText(thirty + "from201", 330);
        badText(thirty + "x", 330);
        badText(thirty + SHORT_LAW + ";" + SHORT_LAW, 330);
    }

    @Sentence("Terms II: 30 LAWS at most; the end's: the TEXT's length (behind the 30th's \";\")")
    static void p14EndBehindThirtyLaws() {
        String thirty = (SHORT_LAW + ";").repeat(30);
        badText(thirty, 330);
        badText(thirty + "  ", 332);
    }

    // Promise 16: laws in force

    @Sentence("Promise 16: in a YEAR; NONE (YEARS 0 .. 200)")
    static void p16YearThatCantBe() {
        WaterOffice x = inForce("from 0 rent 5");
        due("in 0", x.law(0, RENT), 5);
        due("in 200", x.law(200, RENT), 5);
        for (int year : NO_YEARS) {
            for (int what = 0; what <= 7; what++) {
                due("law(" + year + ", " + what + ")", x.law(year, what), NONE);
            }
        }
        due("status()", x.status(), 0);
    }

    @Sentence("Promise 16: what 0 .. 5 + r. NONE.")
    static void p16WhatThatCantBe() {
        WaterOffice x = inForce("from 0 close 2");
        due("what 7", x.law(0, 7), 1);
        for (int what : new int[] {-1, 8, 9, BIG, SMALL}) {
            due("what " + what, x.law(0, what), NONE);
        }
    }

    @Sentence("Terms II: (without: fountains; 0; 0; 0; no bound); Promise 16: 4 \"most\" (NONE without bound)")
    static void p16WithoutLaws() {
        WaterOffice x = inForce("from 5 to 6 first grants; from 5 to 6 heirs 1; from 5 to 6 rent 2;"
                + "from 5 to 6 fine 3; from 5 to 6 most 4; from 5 to 6 close 0");
        int[] counted = {2, 1, 2, 3, 4, 1, 0, 0};
        for (int what = 0; what <= 7; what++) {
            int without = what == MOST ? NONE : 0;
            due("in 4, " + what, x.law(4, what), without);
            due("in 5, " + what, x.law(5, what), counted[what]);
            due("in 6, " + what, x.law(6, what), counted[what]);
            due("in 7, " + what, x.law(7, what), without);
        }
    }

    @Sentence("Terms II: that LAW counts which stands last of those in force")
    static void p16LastOfThoseInForce() {
        String[] kinds = {"heirs", "rent", "fine", "most"};
        for (int i = 0; i < 4; i++) {
            String k = " " + kinds[i] + " ";
            WaterOffice x = inForce("from 2" + k + "9; from 4 to 8" + k + "5; from 6 to 6" + k + "7; from 8 to 9" + k + "0");
            int[] counted = {9, 9, 5, 5, 7, 5, 0, 0, 9};
            for (int year = 2; year <= 10; year++) {
                due(k + "in " + year, x.law(year, HEIRS + i), counted[year - 2]);
            }
        }
    }

    @Sentence("Terms II: of \"first\" that LAW counts which stands last of those in force")
    static void p16LastFirst() {
        WaterOffice x = inForce("from 2 first grants; from 4 to 8 first baths; from 6 to 6 first fountains");
        int[] counted = {0, 2, 2, 1, 1, 0, 1, 1, 2};
        for (int year = 1; year <= 9; year++) {
            due("in " + year, x.law(year, FIRST), counted[year - 1]);
        }
    }

    @Sentence("Terms II: that LAW counts which stands last (not the one from the latest YEAR)")
    static void p16LastInTheTextNotInTime() {
        WaterOffice x = inForce("from 9 rent 1; from 2 to 100 rent 3");
        due("in 9", x.law(9, RENT), 3);
        due("in 100", x.law(100, RENT), 3);
        due("in 101", x.law(101, RENT), 1);
    }

    @Sentence("Terms II: of \"first\", \"heirs\", \"rent\", \"fine\", \"most\" (each kind by itself)")
    static void p16KindsDontTouchOneAnother() {
        WaterOffice x = inForce("from 0 heirs 1; from 0 rent 2; from 0 fine 3; from 0 most 4; from 0 first grants;"
                + "from 0 close 1");
        int[] counted = {2, 1, 2, 3, 4, 0, 1, 0};
        for (int what = 0; what <= 7; what++) {
            due("what " + what, x.law(3, what), counted[what]);
        }
    }

    @Sentence("Terms II: A RANK that is closed by a LAW in force (by any of them)")
    static void p16ClosedByAnyLaw() {
        WaterOffice x = inForce("from 2 to 4 close 0; from 4 to 6 close 2; from 6 to 6 close 0");
        int[] fountains = {0, 1, 1, 1, 0, 1, 0};
        int[] grants = {0, 0, 0, 1, 1, 1, 0};
        for (int year = 1; year <= 7; year++) {
            due("fountains in " + year, x.law(year, CLOSED), fountains[year - 1]);
            due("baths in " + year, x.law(year, CLOSED + 1), 0);
            due("grants in " + year, x.law(year, CLOSED + 2), grants[year - 1]);
        }
    }
}
