/** For each promise of the document: ordinary inputs, its edges, wrong inputs. */
public final class PromisesTest extends Check {
    private static void newObject() {
        part("promise 1");
        WaterOffice x = new WaterOffice();
        for (int what = 0; what <= 10; what++) {
            due("count(" + what + ")", x.count(what), 0);
        }
        due("status()", x.status(), 0);
        due("fault()", x.fault(), NONE);
        due("law(0, 0)", x.law(0, 0), 0);
        due("law(0, 4)", x.law(0, 4), NONE);
        due("gets", x.gets(0, 0, 0), NONE);
        due("dry", x.dry(7, 200, 200), 0);
    }

    private static void aqueducts() {
        part("promise 2");
        WaterOffice x = new WaterOffice();
        due("below 0", x.aqueduct(-1), -1);
        due("above", x.aqueduct(100001), -1);
        due("0", x.aqueduct(0), 0);
        due("most", x.aqueduct(100000), 1);
        due("third", x.aqueduct(5), 2);
        due("fourth", x.aqueduct(6), 3);
        due("no room", x.aqueduct(7), -5);
        due("number first", x.aqueduct(BIG), -1);
        due("count", x.count(1), 4);
        x.castle(1, 100000, 0);
        due("yield", x.at(0, 7, 0, 0), 100000);
    }

    private static void springs() {
        part("promise 3");
        WaterOffice x = new WaterOffice();
        x.aqueduct(10);
        x.aqueduct(20);
        x.castle(0, 100, 0);
        x.castle(1, 100, 0);
        due("year", x.spring(0, 201, 1), -1);
        due("year below", x.spring(0, -1, 1), -1);
        due("amount", x.spring(0, 0, -1), -1);
        due("amount above", x.spring(9, 0, 100001), -1);
        due("aqueduct", x.spring(2, 0, 1), -2);
        due("aqueduct below", x.spring(-1, 0, 1), -2);
        for (int i = 0; i < 60; i++) {
            due("spring", x.spring(0, i, 30 + i), 0);
        }
        due("no room", x.spring(0, 60, 1), -5);
        due("no room for another aqueduct's", x.spring(1, 3, 1), -5);
        due("status", x.status(), -5);
        due("told again", x.spring(0, 3, 0), 0);
        due("count", x.count(10), 60);
        due("changed", x.at(0, 3, 0, 0), 0);
        due("other year", x.at(0, 4, 0, 0), 34);
        due("year without", x.at(0, 60, 0, 0), 10);
        due("other aqueduct", x.at(1, 3, 0, 0), 20);
    }

    private static void castles() {
        part("promise 4");
        WaterOffice x = new WaterOffice();
        due("none yet", x.castle(0, 1, 0), -2);
        due("castle none yet", x.castle(100, 1, 0), -2);
        x.aqueduct(100000);
        due("carries 0", x.castle(0, 0, 0), -1);
        due("carries above", x.castle(0, 100001, 0), -1);
        due("loss below", x.castle(0, 1, -1), -1);
        due("loss above", x.castle(7, 1, 1001), -1);
        due("from below", x.castle(-1, 1, 0), -2);
        due("from far below", x.castle(SMALL, 1, 0), -2);
        due("from 99", x.castle(99, 1, 0), -2);
        due("from far above", x.castle(BIG, 1, 0), -2);
        due("itself", x.castle(100, 1, 0), -2);
        for (int i = 0; i < 12; i++) {
            due("castle", x.castle(i == 0 ? 0 : 99 + i, 100000, i == 11 ? 1000 : 0), i);
        }
        due("no room", x.castle(0, 1, 0), -5);
        due("no such first", x.castle(1, 1, 0), -2);
        due("last but one", x.at(10, 0, 0, 0), 100000);
        due("all lost", x.at(11, 0, 0, 3), 100000);
        due("count", x.count(2), 12);
    }

    private static void persons() {
        part("promise 5");
        WaterOffice x = new WaterOffice();
        for (int i = 0; i < 40; i++) {
            due("person", x.person(), i);
        }
        due("no room", x.person(), -5);
        due("status", x.status(), -5);
        due("count", x.count(4), 40);
        due("last", x.dead(39, 0), NONE);
    }

    private static void deaths() {
        part("promises 6, 25");
        WaterOffice x = new WaterOffice();
        x.person();
        x.person();
        due("year", x.death(5, 201, 0), -1);
        due("known", x.death(0, 0, 201), -1);
        due("known below", x.death(0, 0, -1), -1);
        due("person", x.death(2, 0, 0), -2);
        due("person below", x.death(-1, 0, 0), -2);
        due("first", x.death(0, 10, 20), 1);
        due("second", x.death(0, 5, 15), 2);
        due("third", x.death(0, 7, 30), 3);
        due("not known", x.dead(0, 14), NONE);
        due("the second alone", x.dead(0, 15), 5);
        due("the second was told later", x.dead(0, 20), 5);
        due("the third", x.dead(0, 30), 7);
        due("other person", x.dead(1, 200), NONE);
        due("no person", x.dead(2, 0), NONE);
        due("below", x.dead(-1, 0), NONE);
        due("known above", x.dead(0, 201), NONE);
        due("known below 0", x.dead(0, -1), NONE);
        for (int i = 4; i <= 60; i++) {
            due("more", x.death(1, 200, 200), i);
        }
        due("no room", x.death(1, 0, 0), -5);
        due("count", x.count(5), 60);
        due("year 200", x.dead(1, 200), 200);
    }

    private static void nozzles() {
        part("promise 7");
        WaterOffice x = new WaterOffice();
        x.aqueduct(100);
        x.castle(0, 100, 0);
        x.person();
        due("size", x.nozzle(9, 0, 0, 0), -1);
        due("size above", x.nozzle(0, 1001, 0, 0), -1);
        due("rank", x.nozzle(0, 1, 3, 0), -1);
        due("rank below", x.nozzle(0, 1, -1, 0), -1);
        due("quarter", x.nozzle(9, 1, 1, 8), -1);
        due("quarter below", x.nozzle(0, 1, 0, -1), -1);
        due("castle", x.nozzle(1, 1, 0, 7), -2);
        due("castle below", x.nozzle(-1, 1, 0, 7), -2);
        due("person", x.nozzle(0, 1, 2, 1), -2);
        due("person below", x.nozzle(0, 1, 2, -1), -2);
        laws(x, "from 5 to 6 most 50");
        due("not yet barred", x.nozzle(0, 51, 2, 0), 0);
        x.go(5);
        due("barred", x.nozzle(0, 51, 2, 0), -3);
        due("status", x.status(), -3);
        due("as large as most", x.nozzle(0, 50, 2, 0), 1);
        due("other ranks are not barred", x.nozzle(0, 1000, 1, 7), 2);
        due("no such first", x.nozzle(0, 51, 2, 1), -2);
        x.go(2);
        for (int i = 3; i < 80; i++) {
            due("more", x.nozzle(0, 1, 0, 0), i);
        }
        due("no room", x.nozzle(0, 1, 0, 0), -5);
        laws(x, "from 0 most 0");
        due("barred ahead of no room", x.nozzle(0, 1, 2, 0), -3);
        due("count", x.count(3), 80);
    }

    private static void shutting() {
        part("promise 8");
        WaterOffice x = new WaterOffice();
        x.aqueduct(100);
        x.castle(0, 100, 0);
        x.person();
        x.go(4);
        due("nozzle", x.nozzle(0, 10, 2, 0), 0);
        x.nozzle(0, 10, 0, 0);
        due("no such", x.shut(2), -2);
        due("below", x.shut(-1), -2);
        due("same year", x.shut(1), 0);
        due("never open", x.gets(1, 4, 0), 0);
        x.go(3);
        due("shut", x.shut(0), 0);
        x.go(3);
        due("shut again", x.shut(0), 0);
        due("status", x.status(), 0);
        due("ahead of the stamp", x.lives(0, 3, 0), 0);
        due("year of the stamp", x.lives(0, 4, 0), 1);
        due("ahead of the shutting", x.gets(0, 6, 0), 10);
        due("shut", x.lives(0, 7, 0), 0);
        due("shut stays", x.gets(0, 9, 0), 0);
    }

    private static void taps() {
        part("promise 9");
        WaterOffice x = new WaterOffice();
        x.aqueduct(100);
        x.castle(0, 100, 0);
        due("amount", x.tap(0, 0, 0, 0), -1);
        due("amount above", x.tap(0, 10001, 0, 0), -1);
        due("first", x.tap(0, 1, -1, 0), -1);
        due("last", x.tap(0, 1, 0, 201), -1);
        due("last ahead", x.tap(5, 1, 1, 0), -1);
        due("castle", x.tap(1, 1, 0, 0), -2);
        due("castle below", x.tap(-1, 1, 0, 0), -2);
        due("tap", x.tap(0, 60, 1, 3), 1);
        due("tap", x.tap(0, 60, 3, 200), 2);
        due("none", x.at(0, 0, 0, 2), 0);
        due("one", x.at(0, 1, 0, 2), 60);
        due("as far as there is", x.at(0, 3, 0, 2), 100);
        due("the second alone", x.at(0, 4, 0, 2), 60);
        for (int i = 3; i <= 60; i++) {
            due("more", x.tap(0, 10000, 9, 9), i);
        }
        due("no room", x.tap(0, 1, 0, 0), -5);
        due("count", x.count(6), 60);
    }

    private static void repairs() {
        part("promise 10");
        WaterOffice x = new WaterOffice();
        x.aqueduct(100);
        x.castle(0, 80, 0);
        x.castle(0, 80, 0);
        due("first", x.repair(0, -1, 0), -1);
        due("last", x.repair(0, 0, 201), -1);
        due("last ahead", x.repair(5, 1, 0), -1);
        due("castle", x.repair(2, 0, 0), -2);
        due("castle below", x.repair(-1, 0, 0), -2);
        due("repair", x.repair(0, 2, 3), 1);
        due("ahead", x.at(1, 1, 0, 1), 20);
        due("nothing", x.at(0, 2, 0, 1), 0);
        due("the other one takes more", x.at(1, 3, 0, 1), 80);
        due("behind", x.at(0, 4, 0, 1), 80);
        for (int i = 2; i <= 40; i++) {
            due("more", x.repair(1, 200, 200), i);
        }
        due("no room", x.repair(0, 0, 0), -5);
        due("count", x.count(7), 40);
    }

    private static void going() {
        part("promise 11");
        WaterOffice x = new WaterOffice();
        due("0", x.go(0), -1);
        due("51", x.go(51), -1);
        due("below", x.go(SMALL), -1);
        due("above", x.go(BIG), -1);
        due("50", x.go(50), 50);
        due("100", x.go(50), 100);
        due("150", x.go(50), 150);
        due("199", x.go(49), 199);
        due("above 200", x.go(2), -1);
        due("200", x.go(1), 200);
        due("above 200", x.go(1), -1);
        due("count", x.count(0), 200);
    }

    private static void feeding() {
        part("promises 12, 13");
        WaterOffice x = new WaterOffice();
        due("end of the empty tape", x.end(0), 0);
        due("end above", x.end(1), NONE);
        for (int i = 1; i <= 20; i++) {
            due("feed", x.feed(-1, 0, 1, BIG, SMALL), i * 20);
        }
        due("feed above", x.feed(0, 0, 0, 0, 0), NONE);
        due("count", x.count(9), 400);
        due("end above", x.end(401), NONE);
        due("end below", x.end(-1), NONE);
        due("end", x.end(381), 381);
        due("feed above", x.feed(0, 0, 0, 0, 0), NONE);
        due("end", x.end(380), 380);
        due("feed", x.feed(0, 0, 0, 0, 0), 400);
        due("status is not touched", x.status(), 0);
        due("end", x.end(1), 1);
        due("a byte of 255 can't be", x.laws(), -6);
        due("end", x.end(0), 0);
        x.feed(0x66726f6d, 0x20372072, 0x656e7420, 0x33202020, 0x3b000000);
        x.end(16);
        due("laws", x.laws(), 1);
        due("law", x.law(7, 2), 3);
    }

    private static void goodTexts() {
        part("promise 14");
        goodText(" ", 0);
        goodText("   ", 0);
        goodText("from 0 heirs 0", 1);
        goodText("  from0to200first grants  ;from 200 close 2  ", 2);
        goodText("from000000000000000005to005rent000000000000000100000", 1);
        goodText("from 7 to 7 first fountains;from 7 first baths;from 7 first grants", 3);
        goodText("from 1 rent 100000;from 1 fine 100000;from 1 most 100000;from 1 heirs 100000", 4);
        goodText("from0rent0;".repeat(29) + "from0rent0", 30);
        WaterOffice x = new WaterOffice();
        laws(x, "from 0 rent 5; from 0 close 1");
        due("laws are replaced", laws(x, "from 0 fine 6"), 1);
        due("old law is gone", x.law(0, 2), 0);
        due("old closing is gone", x.law(0, 6), 0);
        due("new law", x.law(0, 3), 6);
        due("blanks", laws(x, "  "), 0);
        due("gone", x.law(0, 3), 0);
    }

    private static void badTexts() {
        part("promises 14, 15");
        badText("", 0);
        badText("x", 0);
        badText(" From", 1);
        badText(";", 0);
        badText("from", 4);
        badText("from   ", 7);
        badText("from 201", 5);
        badText("from 5 to", 9);
        badText("from 5 to 4 rent 1", 10);
        badText("from 5 to 201 rent 1", 10);
        badText("from 5 to 6", 11);
        badText("from 5 to 6 to 7 rent 1", 12);
        badText("from 5 rent", 11);
        badText("from 5 rent 100001", 12);
        badText("from 5 rent 99999999999999999999999999", 12);
        badText("from 5 heirs baths", 13);
        badText("from 5 first 1", 13);
        badText("from 5 first bath", 13);
        badText("from 5 firstbaths", 7);
        badText("from 5 close 3", 13);
        badText("from 5 close grants", 13);
        badText("from 5 rent 1 2", 14);
        badText("from 5 rent 1;", 14);
        badText("from 5 rent 1;;", 14);
        badText("from 5 rent 1; ", 15);
        badText("from 5 rent 1 from 5 rent 1", 14);
        badText("from 5 rent -1", 12);
        badText("from 5 rentz 1", 7);
        badText("from 5 renta 1", 7);
        badText("from\t5 rent 1", 4);
        badText("from 5 rent 1\0", 13);
        badText("from 5 rent 1;rent 1", 14);
        badText("from0rent0;".repeat(30) + "from0rent0", 330);
        badText("from0rent0;".repeat(30) + "  x", 332);
        badText("from0rent0;".repeat(30), 330);
        WaterOffice x = new WaterOffice();
        laws(x, "x");
        laws(x, " ");
        due("fault of the latest one", x.fault(), NONE);
        due("status", x.status(), 0);
    }

    private static void law() {
        part("promise 16");
        WaterOffice x = new WaterOffice();
        laws(x, "from 5 to 9 first grants; from 6 first baths; from 7 to 7 first fountains;"
                + "from 3 heirs 4; from 3 to 3 heirs 5; from 2 rent 6; from 1 to 2 fine 7;"
                + "from 0 to 0 most 0; from 8 close 0; from 9 to 9 close 0; from 9 close 2");
        due("first 4", x.law(4, 0), 0);
        due("first 5", x.law(5, 0), 2);
        due("first 6", x.law(6, 0), 1);
        due("first 7", x.law(7, 0), 0);
        due("first 200", x.law(200, 0), 1);
        due("heirs 2", x.law(2, 1), 0);
        due("heirs 3", x.law(3, 1), 5);
        due("heirs 4", x.law(4, 1), 4);
        due("rent 1", x.law(1, 2), 0);
        due("rent 2", x.law(2, 2), 6);
        due("fine 2", x.law(2, 3), 7);
        due("fine 3", x.law(3, 3), 0);
        due("most 0", x.law(0, 4), 0);
        due("most 1", x.law(1, 4), NONE);
        due("closed 7", x.law(7, 5), 0);
        due("closed 8", x.law(8, 5), 1);
        due("closed 10", x.law(10, 5), 1);
        due("closed baths", x.law(10, 6), 0);
        due("closed grants", x.law(9, 7), 1);
        due("what", x.law(0, 8), NONE);
        due("what below", x.law(0, -1), NONE);
        due("year", x.law(201, 0), NONE);
        due("year below", x.law(-1, 0), NONE);
    }

    private static void living() {
        part("promise 17");
        WaterOffice x = new WaterOffice();
        x.aqueduct(100);
        x.castle(0, 100, 0);
        x.person();
        x.nozzle(0, 10, 2, 0);
        x.nozzle(0, 10, 1, 0);
        x.death(0, 5, 8);
        due("other rank", x.lives(1, 0, 0), NONE);
        due("no nozzle", x.lives(2, 0, 0), NONE);
        due("below", x.lives(-1, 0, 0), NONE);
        due("year", x.lives(0, 201, 0), NONE);
        due("known", x.lives(0, 0, 201), NONE);
        due("known below", x.lives(0, 0, -1), NONE);
        due("year of death", x.lives(0, 5, 8), 1);
        due("behind it", x.lives(0, 6, 8), 0);
        due("not known", x.lives(0, 200, 7), 1);
        laws(x, "from 6 to 7 heirs 1; from 7 heirs 3; from 3 to 3 most 9; from 4 to 4 most 10");
        due("heirs 6", x.lives(0, 6, 8), 1);
        due("heirs 8", x.lives(0, 8, 8), 1);
        due("heirs 9", x.lives(0, 9, 8), 0);
        due("above most", x.lives(0, 3, 0), 0);
        due("as most", x.lives(0, 4, 0), 1);
        laws(x, "from 0 close 2");
        due("closed, but lives", x.lives(0, 0, 0), 1);
        due("closed", x.gets(0, 0, 0), 0);
    }

    private static void getting() {
        part("promise 18");
        WaterOffice x = new WaterOffice();
        x.aqueduct(11);
        x.castle(0, 100, 0);
        x.person();
        x.nozzle(0, 5, 0, 0);
        x.nozzle(0, 5, 0, 1);
        x.nozzle(0, 6, 2, 0);
        x.nozzle(0, 4, 2, 0);
        x.nozzle(0, 9, 1, 0);
        due("fountain", x.gets(0, 0, 0), 5);
        due("fountain", x.gets(1, 0, 0), 5);
        due("bath", x.gets(4, 0, 0), 1);
        due("grant", x.gets(2, 0, 0), 0);
        laws(x, "from 1 first grants; from 2 first baths; from 3 close 1; from 4 close 0");
        due("grants first", x.gets(2, 1, 0), 6);
        due("grants first", x.gets(3, 1, 0), 4);
        due("then fountains, the lower first", x.gets(0, 1, 0), 1);
        due("then fountains", x.gets(1, 1, 0), 0);
        due("baths first", x.gets(4, 2, 0), 9);
        due("then fountains", x.gets(0, 2, 0), 1);
        due("then fountains", x.gets(1, 2, 0), 1);
        due("baths closed", x.gets(4, 3, 0), 0);
        due("shares, cut, one more for the lower", x.gets(2, 3, 0), 1);
        due("shares", x.gets(3, 3, 0), 0);
        due("all but grants closed", x.gets(3, 4, 0), 4);
        x.death(0, 2, 9);
        due("dead", x.gets(3, 4, 9), 0);
        due("not known", x.gets(3, 4, 8), 4);
        due("no nozzle", x.gets(5, 0, 0), NONE);
        due("below", x.gets(-1, 0, 0), NONE);
        due("year", x.gets(0, 201, 0), NONE);
        due("known", x.gets(0, 0, -1), NONE);
    }

    private static void flows() {
        part("promise 19");
        WaterOffice x = new WaterOffice();
        x.aqueduct(1000);
        x.castle(0, 900, 7);
        x.castle(100, 300, 0);
        x.castle(100, 300, 0);
        x.castle(100, 301, 0);
        x.castle(0, 500, 0);
        x.tap(0, 13, 0, 0);
        x.nozzle(0, 81, 0, 0);
        due("into the pipe", x.at(0, 0, 0, 1), 900);
        due("tapped", x.at(0, 0, 0, 2), 13);
        due("lost", x.at(0, 0, 0, 3), 6);
        due("in", x.at(0, 0, 0, 0), 881);
        due("given", x.at(0, 0, 0, 4), 81);
        due("on", x.at(0, 0, 0, 5), 800);
        due("waste", x.at(0, 0, 0, 6), 0);
        due("share", x.at(1, 0, 0, 1), 267);
        due("share", x.at(2, 0, 0, 1), 266);
        due("share", x.at(3, 0, 0, 1), 267);
        due("what is left in the aqueduct", x.at(4, 0, 0, 0), 100);
        due("waste behind", x.at(4, 0, 0, 6), 100);
        x.repair(1, 5, 5);
        due("in a repair", x.at(1, 5, 0, 1), 0);
        due("the others carry all they can", x.at(2, 5, 0, 1), 300);
        due("waste", x.at(0, 5, 0, 6), 900 - 6 - 81 - 601);
        x.spring(0, 5, 89);
        due("in", x.at(0, 5, 0, 0), 89);
        due("none for a pipe in a repair", x.at(1, 5, 0, 1), 0);
        due("share", x.at(2, 5, 0, 1), 4);
        due("share", x.at(3, 5, 0, 1), 4);
        x.spring(0, 5, 88);
        due("what is left is not for a pipe in a repair", x.at(1, 5, 0, 1), 0);
        due("share", x.at(2, 5, 0, 1), 4);
        due("share", x.at(3, 5, 0, 1), 3);
        due("castle", x.at(5, 0, 0, 0), NONE);
        due("castle below", x.at(-1, 0, 0, 0), NONE);
        due("year", x.at(0, 201, 0, 0), NONE);
        due("known", x.at(0, 0, 201, 0), NONE);
        due("what", x.at(0, 0, 0, 7), NONE);
        due("what below", x.at(0, 0, 0, -1), NONE);
    }

    private static void largeShares() {
        part("promise 19, large");
        WaterOffice x = new WaterOffice();
        x.aqueduct(100000);
        x.castle(0, 100000, 0);
        for (int i = 0; i < 11; i++) {
            x.castle(100, 100000, 0);
        }
        due("share", x.at(1, 0, 0, 1), 9091);
        due("share", x.at(10, 0, 0, 1), 9091);
        due("share", x.at(11, 0, 0, 1), 9090);
    }

    private static void drying() {
        part("promise 20");
        WaterOffice x = new WaterOffice();
        x.aqueduct(10);
        x.castle(0, 100, 0);
        x.nozzle(0, 10, 0, 3);
        x.nozzle(0, 10, 1, 3);
        due("half is enough", x.dry(3, 0, 0), 0);
        x.spring(0, 1, 9);
        due("less than half", x.dry(3, 1, 0), 1);
        due("no nozzles", x.dry(2, 1, 0), 0);
        laws(x, "from 2 close 0; from 2 close 1");
        due("closed", x.dry(3, 2, 0), 1);
        x.go(4);
        x.shut(0);
        x.shut(1);
        due("still open then", x.dry(3, 3, 0), 1);
        due("shut", x.dry(3, 4, 0), 0);
        due("quarter", x.dry(8, 0, 0), NONE);
        due("quarter below", x.dry(-1, 0, 0), NONE);
        due("year", x.dry(0, 201, 0), NONE);
        due("known", x.dry(0, 0, 201), NONE);
        x.person();
        x.nozzle(0, 9, 2, 0);
        x.go(1);
        due("grants are for no quarter", x.dry(0, 5, 5), 0);
    }

    private static void finding() {
        part("promise 21");
        WaterOffice x = new WaterOffice();
        x.aqueduct(1000);
        x.castle(0, 900, 500);
        x.castle(100, 900, 1000);
        x.tap(0, 51, 2, 2);
        x.tap(0, 50, 3, 3);
        x.tap(1, 40, 2, 2);
        x.tap(0, 10000, 4, 4);
        due("none", x.found(0, 1), 0);
        due("849 comes out", x.at(0, 2, 0, 0), 425);
        due("850 comes out alike", x.at(0, 3, 0, 0), 425);
        due("the least, below what was tapped", x.found(0, 2), 50);
        due("the least, as tapped", x.found(0, 3), 50);
        due("all lost", x.found(1, 2), 0);
        due("all tapped", x.found(0, 4), 900);
        due("castle", x.found(2, 0), NONE);
        due("castle below", x.found(-1, 0), NONE);
        due("year", x.found(0, 201), NONE);
        due("year below", x.found(0, -1), NONE);
    }

    private static void bestYears() {
        part("promise 22");
        WaterOffice x = new WaterOffice();
        x.aqueduct(100);
        x.castle(0, 100, 0);
        x.castle(0, 100, 0);
        x.nozzle(0, 60, 0, 1);
        x.nozzle(1, 40, 0, 2);
        due("all alike", x.best(0, 3, 0, 198), 0);
        x.spring(0, 50, 0);
        due("two are dry in 50, one in others", x.best(0, 1, 50, 52), 51);
        laws(x, "from 60 to 62 close 1");
        x.nozzle(0, 10, 1, 3);
        x.spring(0, 70, 10);
        due("castle 0 is dry, castle 1 gets its water", x.best(0, 1, 50, 72), 51);
        x.repair(0, 80, 81);
        due("behind a repair that is there", x.best(1, 2, 79, 90), 82);
        due("years", x.best(0, 0, 0, 0), -1);
        due("years above", x.best(0, 11, 0, 0), -1);
        due("from below", x.best(0, 1, -1, 0), -1);
        due("to ahead", x.best(0, 1, 2, 1), -1);
        due("to above", x.best(0, 1, 0, 201), -1);
        due("to far above", x.best(0, 10, 0, BIG), -1);
        due("end above", x.best(9, 10, 0, 192), -1);
        due("end as late as can be", x.best(0, 10, 191, 191), 191);
        due("castle", x.best(2, 1, 0, 0), -2);
        due("castle below", x.best(-1, 1, 0, 0), -2);
        due("no repair is told", x.count(7), 1);
        due("status is not touched", x.status(), 0);
        WaterOffice z = new WaterOffice();
        z.aqueduct(10);
        z.castle(0, 10, 0);
        z.nozzle(0, 10, 0, 0);
        z.go(5);
        z.nozzle(0, 10, 0, 1);
        z.shut(0);
        z.go(5);
        z.shut(1);
        due("the first year without open nozzles", z.best(0, 3, 0, 20), 10);
        due("the nearest to it", z.best(0, 4, 0, 9), 9);
    }

    private static void rents() {
        part("promise 23");
        WaterOffice x = new WaterOffice();
        x.aqueduct(1000);
        x.castle(0, 1000, 0);
        x.person();
        x.person();
        x.nozzle(0, 100, 2, 0);
        x.nozzle(0, 10, 2, 0);
        x.nozzle(0, 7, 2, 1);
        x.nozzle(0, 7, 0, 0);
        laws(x, "from 1 rent 2; from 5 rent 3; from 0 heirs 2; from 6 to 6 close 2");
        due("nothing yet", x.rent(0, 0), 0);
        x.go(8);
        due("all years", x.rent(0, 0), 4 * 2 * 110 + 2 * 3 * 110);
        due("other person", x.rent(1, 0), 4 * 2 * 7 + 2 * 3 * 7);
        x.death(0, 3, 7);
        due("heirs pay nothing", x.rent(0, 7), 3 * 2 * 110);
        due("heirs have it", x.gets(0, 5, 7), 100);
        due("not known", x.rent(0, 6), 4 * 2 * 110 + 2 * 3 * 110);
        due("known", x.rent(0, 201), -1);
        due("known below", x.rent(0, -1), -1);
        due("number first", x.rent(9, -1), -1);
        due("person", x.rent(2, 0), -2);
        due("person below", x.rent(-1, 0), -2);
        due("status is not touched", x.status(), 0);
        WaterOffice z = new WaterOffice();
        z.aqueduct(100000);
        z.castle(0, 100000, 0);
        z.person();
        for (int i = 0; i < 80; i++) {
            z.nozzle(0, 1000, 2, 0);
        }
        laws(z, "from 0 rent 100000");
        goTo(z, 200);
        due("large", z.rent(0, 0), 200L * 100000 * 80 * 1000);
    }

    private static void fining() {
        part("promise 24");
        WaterOffice x = new WaterOffice();
        x.aqueduct(100000);
        x.castle(0, 100000, 0);
        x.castle(100, 90000, 0);
        for (int i = 0; i < 10; i++) {
            x.tap(0, 9000, 0, 200);
        }
        x.tap(1, 10000, 3, 4);
        x.tap(1, 10000, 4, 5);
        laws(x, "from 0 fine 100000; from 4 to 4 fine 1");
        due("nothing yet", x.fines(0), 0);
        x.go(5);
        due("taps of one pipe", x.fines(1), 10000L * 100000 + 10000);
        goTo(x, 200);
        due("large", x.fines(0), 199L * 90000 * 100000 + 90000);
        due("castle", x.fines(2), -2);
        due("castle below", x.fines(-1), -2);
        due("status is not touched", x.status(), 0);
        WaterOffice z = new WaterOffice();
        z.aqueduct(100);
        z.castle(0, 100, 0);
        z.castle(100, 100, 0);
        z.person();
        z.nozzle(0, 30, 2, 0);
        z.tap(1, 100, 0, 200);
        z.death(0, 0, 9);
        laws(z, "from 0 fine 1");
        z.go(8);
        due("death is not known", z.fines(1), 8 * 70);
        z.go(1);
        due("death is known", z.fines(1), 70 + 8 * 100);
    }

    private static void counting() {
        part("promise 26");
        WaterOffice x = new WaterOffice();
        x.aqueduct(1);
        x.castle(0, 1, 1);
        x.castle(0, 1, 1);
        for (int i = 0; i < 3; i++) {
            x.nozzle(0, 1, 0, 0);
        }
        for (int i = 0; i < 4; i++) {
            x.person();
        }
        for (int i = 0; i < 5; i++) {
            x.death(0, 1, 1);
        }
        for (int i = 0; i < 6; i++) {
            x.tap(0, 1, 0, 0);
        }
        for (int i = 0; i < 7; i++) {
            x.repair(0, 0, 0);
        }
        laws(x, "from0rent0;".repeat(7) + "from0rent0");
        write(x, "ninebytes");
        for (int i = 0; i < 10; i++) {
            x.spring(0, i, 0);
        }
        x.go(11);
        due("count(0)", x.count(0), 11);
        for (int what = 1; what <= 10; what++) {
            due("count(" + what + ")", x.count(what), what);
        }
        due("count(11)", x.count(11), NONE);
        due("count(-1)", x.count(-1), NONE);
        due("count of the least", x.count(SMALL), NONE);
    }

    private static void status() {
        part("promise 27");
        WaterOffice x = new WaterOffice();
        x.go(0);
        due("go", x.status(), -1);
        x.feed(0, 0, 0, 0, 0);
        x.end(500);
        x.best(9, 1, 0, 0);
        x.rent(9, 0);
        x.fines(9);
        x.law(-1, -1);
        x.gets(0, 0, 0);
        x.fault();
        x.count(99);
        due("others leave it", x.status(), -1);
        due("twice", x.status(), -1);
        x.shut(0);
        due("shut", x.status(), -2);
        x.laws();
        due("laws", x.status(), -6);
        x.person();
        due("person", x.status(), 0);
        x.castle(0, 1, 0);
        due("castle", x.status(), -2);
        x.aqueduct(1);
        due("aqueduct", x.status(), 0);
        x.spring(0, 0, -1);
        due("spring", x.status(), -1);
        x.castle(0, 1, 0);
        due("castle", x.status(), 0);
        x.tap(1, 1, 0, 0);
        due("tap", x.status(), -2);
        x.go(1);
        due("go", x.status(), 0);
        x.repair(0, 1, 0);
        due("repair", x.status(), -1);
        x.tap(0, 1, 0, 0);
        due("tap", x.status(), 0);
        x.nozzle(0, 0, 0, 0);
        due("nozzle", x.status(), -1);
        x.nozzle(0, 1, 0, 0);
        due("nozzle", x.status(), 0);
        x.death(1, 0, 0);
        due("death", x.status(), -2);
    }

    public static void main(String[] args) {
        newObject();
        aqueducts();
        springs();
        castles();
        persons();
        deaths();
        nozzles();
        shutting();
        taps();
        repairs();
        going();
        feeding();
        goodTexts();
        badTexts();
        law();
        living();
        getting();
        flows();
        largeShares();
        drying();
        finding();
        bestYears();
        rents();
        fining();
        counting();
        status();
        finish();
    }
}
