import java.io.IOException;
import java.nio.file.Files;
import java.nio.file.Path;
import java.util.ArrayList;
import java.util.List;
import java.util.NoSuchElementException;
import java.util.stream.Stream;

/**
 * Runs of 512 calls on a new object, with the answers that another model gave (src/test/other/model.py: written from the
 * document without a look into PlainModel). A line is a call and its answer; "new" begins a new object.
 */
public final class RecordedRunsTest {
  private static final Checks C = new Checks();
  private static final int MOST_CALLS = 512;

  public static void main(String[] args) throws IOException {
    List<Path> files;
    try (Stream<Path> all = Files.list(Path.of("src/test/runs"))) {
      files = new ArrayList<>(all.filter(f -> f.toString().endsWith(".txt")).sorted().toList());
    }
    C.begin("recorded runs");
    C.due("there are some", files.isEmpty(), false);
    for (Path file : files) {
      replay(file);
    }
    C.end("recorded runs");
  }

  private static void replay(Path file) throws IOException {
    Both both = new Both();
    int run = 0;
    int calls = 0;
    boolean isRight = true;
    for (String line : Files.readAllLines(file)) {
      if (line.equals("new")) {
        both = new Both();
        run++;
        calls = 0;
        isRight = true;
        continue;
      }
      calls++;
      int at = line.indexOf('=');
      String got = answer(both, line.substring(0, at));
      // Behind a first wrong answer a run may go anywhere.
      if (isRight) {
        C.begin(file.getFileName() + ", run " + run + ", call " + calls);
        C.due(line.substring(0, at), got, line.substring(at + 1));
        C.due("at most so many calls", calls <= MOST_CALLS, true);
      }
      isRight = isRight && got.equals(line.substring(at + 1));
    }
    C.due("runs were seen", run > 0, true);
  }

  private static String answer(Both both, String call) {
    try {
      Object answer = both.askByText(call);
      return answer instanceof Boolean ? (Boolean) answer ? "1" : "0" : answer.toString();
    } catch (NoSuchElementException e) {
      return "none";
    }
  }
}
