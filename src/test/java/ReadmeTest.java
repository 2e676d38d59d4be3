import java.io.IOException;
import java.nio.file.Files;
import java.nio.file.Path;

/** The example of README.md: each line of it is called here, and answers what stands behind it. */
public final class ReadmeTest {
    private static int wrong = 0;
    private static String readme = "";

    public static void main(String[] args) throws IOException {
        readme = Files.readString(Path.of("README.md"));
        WhistleStop x = new WhistleStop();
        int harbour = x.addStop(5);
        stands("int harbour = x.addStop(5);", harbour, 0);
        int market = x.addStop(3);
        stands("int market = x.addStop(3);", market, 1);
        int daily = x.addCalendar(127, 0, 365);
        stands("int daily = x.addCalendar(127, 0, 365);", daily, 0);
        int trip = x.addTrip(daily, 40, harbour, 480);
        stands("int trip = x.addTrip(daily, 40, harbour, 480);", trip, 0);
        stands("x.addCall(trip, market, 500, 502);", x.addCall(trip, market, 500, 502), 1);
        stands("x.earliest(harbour, market, 1900);  ", x.earliest(harbour, market, 1900), 1940);
        stands("// 1940: the run of the next day", x.departsAt(harbour, 1900, 0), 1920);
        stands("x.find(harbour, market, 1900);", x.find(harbour, market, 1900), 1);
        stands("x.late(trip, 1, 6);", x.late(trip, 1, 6), 0);
        stands("x.earliest(harbour, market, 1900);  ", x.earliest(harbour, market, 1900), 1946);
        System.out.println(wrong == 0 ? "the example holds" : wrong + " lines of the example do not hold");
        if (wrong != 0) {
            System.exit(1);
        }
    }

    private static void stands(String line, int got, int due) {
        if (!readme.contains(line) || got != due) {
            wrong++;
            System.out.println(line + " answered " + got + ", due is " + due);
        }
    }
}
