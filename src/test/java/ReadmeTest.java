import java.io.IOException;
import java.nio.file.Files;
import java.nio.file.Path;
import java.util.ArrayList;
import java.util.regex.Matcher;
import java.util.regex.Pattern;

/** The example of README.md: its calls are those of this test, and answer what is told there. */
final class ReadmeTest {
  private static final Check CHECK = new Check("ReadmeTest");
  // A call, and the number that the comment behind it begins with, if it begins with one.
  private static final Pattern CALL = Pattern.compile("arcade\\.(\\w+\\(.*?\\)); +// (-?\\d+)?");

  private static final ArrayList<String> MADE = new ArrayList<>();

  public static void main(String[] args) throws IOException {
    makeCalls();
    CHECK.same("the calls of README.md", callsOf("README.md"), MADE);
    CHECK.finish();
  }

  private static void makeCalls() {
    PennyArcade x = new PennyArcade();
    due("addTable(7, 3, 100)", x.addTable(7, 3, 100), 0);
    due("addPusher(3, 20)", x.addPusher(3, 20), 1);
    due("setCup(table, 4, 3)", x.setCup(0, 4, 3), 0);
    due("bend(table, 1, 2, -1)", x.bend(0, 1, 2, -1), 0);
    due("ends(table, 4, 1)", x.ends(0, 4, 1), 6);
    due("bestTilt(table, 4)", x.bestTilt(0, 4), 0);
    due("dead(table)", x.dead(0), 1);
    due("come(60, 3)", x.come(60, 3), 0);
    due("play(one, table, 4, tilt)", x.play(0, 0, 4, 0), 3);
    due("player(one, 0)", x.player(0, 0), 62);
    due("pass(30)", x.pass(30), 6);
    due("machine(table, 4)", x.machine(0, 4), 111);
    due("count(2)", x.count(2), 1);
    due("foresee(40, 1)", x.foresee(40, 1), 131);
    due("advise(60)", x.advise(60), 0);
    due("setSkill(1)", x.setSkill(1), 0);
    due("call(best)", x.call(0), 1);
    due("repair(0)", x.repair(0), 0);
    due("ledge(pusher, 0)", x.ledge(1, 0), 3);
    due("go(one, -1)", x.go(0, -1), 1);
    MADE.add("back() answers null");
    MADE.add("digest() answers null");
  }

  private static void due(String call, int got, int told) {
    CHECK.is(call, got, told);
    MADE.add(call + " answers " + told);
  }

  private static ArrayList<String> callsOf(String file) throws IOException {
    ArrayList<String> calls = new ArrayList<>();
    for (String line : Files.readAllLines(Path.of(file))) {
      Matcher matcher = CALL.matcher(line);
      if (matcher.find()) {
        calls.add(matcher.group(1) + " answers " + matcher.group(2));
      }
    }
    return calls;
  }
}
