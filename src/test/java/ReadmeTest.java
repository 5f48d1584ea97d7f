import java.io.IOException;
import java.nio.file.Files;
import java.nio.file.Path;
import java.util.ArrayList;
import java.util.List;

/** The examples of README.md: each call that it shows, with the answer that stands behind it. */
public final class ReadmeTest extends Check {
    private static final List<String> unseen = new ArrayList<>();

    public static void main(String[] args) throws IOException {
        part("README.md");
        for (String line : Files.readString(Path.of("README.md")).split("\n")) {
            if (line.matches("(int .*|office\\..*);\\s*(//.*)?")) {
                unseen.add(line);
            }
        }
        examples();
        for (String line : unseen) {
            fail("nothing tests: " + line);
        }
        finish();
    }

    private static void examples() {
        WaterOffice office = new WaterOffice();
        int aqueduct = made("int aqueduct = office.aqueduct(1000);", office.aqueduct(1000), 0);
        int castle = made("int castle = office.castle(aqueduct, 600, 100);", office.castle(aqueduct, 600, 100), 0);
        int lower = made("int lower = office.castle(100 + castle, 200, 0);", office.castle(100 + castle, 200, 0), 1);
        int fountain = made("int fountain = office.nozzle(castle, 300, 0, 3);", office.nozzle(castle, 300, 0, 3), 0);
        int owner = made("int owner = office.person();", office.person(), 0);
        int grant = made("int grant = office.nozzle(lower, 40, 2, owner);", office.nozzle(lower, 40, 2, owner), 1);
        shown("office.gets(fountain, 0, 0);", office.gets(fountain, 0, 0));
        shown("office.at(lower, 0, 0, 1);", office.at(lower, 0, 0, 1));
        shown("office.at(castle, 0, 0, 6);", office.at(castle, 0, 0, 6));

        shown("office.feed(0x66726f6d, 0x20302072, 0x656e7420, 0x373b2066, 0x726f6d20);",
                office.feed(0x66726f6d, 0x20302072, 0x656e7420, 0x373b2066, 0x726f6d20));
        shown("office.feed(0x34206865, 0x69727320, 0x32202020, 0x20202020, 0x20202020);",
                office.feed(0x34206865, 0x69727320, 0x32202020, 0x20202020, 0x20202020));
        shown("office.end(29);", office.end(29));
        shown("office.laws();", office.laws());
        shown("office.law(4, 1);", office.law(4, 1));
        shown("office.death(owner, 3, 5);", office.death(owner, 3, 5));
        shown("office.lives(grant, 5, 5);", office.lives(grant, 5, 5));
        shown("office.go(10);", office.go(10));
        shown("office.rent(owner, 4);", office.rent(owner, 4));
        shown("office.rent(owner, 5);", office.rent(owner, 5));

        shown("office.tap(castle, 50, 2, 4);", office.tap(castle, 50, 2, 4));
        shown("office.found(castle, 3);", office.found(castle, 3));
        shown("office.best(castle, 2, 8, 12);", office.best(castle, 2, 8, 12));
        shown("office.repair(castle, 8, 9);", office.repair(castle, 8, 9));
        shown("office.dry(3, 8, 8);", office.dry(3, 8, 8));
    }

    private static int made(String code, int number, int want) {
        take(code);
        due(code, number, want);
        return number;
    }

    private static void shown(String code, long answer) {
        String comment = take(code).replaceFirst("^//\\s*", "");
        if (!comment.matches(answer + "\\b.*")) {
            fail(code + " answered " + answer + ", README.md says: " + comment);
        }
    }

    /** The comment behind the first line that shows this code and has not been looked at yet. */
    private static String take(String code) {
        for (int i = 0; i < unseen.size(); i++) {
            if (unseen.get(i).startsWith(code)) {
                return unseen.remove(i).substring(code.length()).strip();
            }
        }
        fail("README.md does not show: " + code);
        return "";
    }
}
