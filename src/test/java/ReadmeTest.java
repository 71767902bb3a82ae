import java.io.IOException;
import java.lang.reflect.Method;
import java.lang.reflect.Modifier;
import java.nio.file.Files;
import java.nio.file.Path;
import java.util.Iterator;
import java.util.List;

/** What README.md shows of the class: each call answers what stands behind it there, and no call is left out. */
public final class ReadmeTest {
    private static final Check CHECK = new Check("ReadmeTest");
    private static List<String> readme;
    private static Iterator<String> shown;

    public static void main(String[] args) throws IOException {
        readme = Files.readAllLines(Path.of("README.md"));
        shown = readme.stream().filter(line -> line.startsWith("kernel.")).iterator();
        exampleAnswers();
        CHECK.due("calls shown and not made here", false, shown.hasNext());
        tableNamesEveryCall();
        CHECK.finish();
    }

    private static void exampleAnswers() {
        String made = "TaskKernel kernel = new TaskKernel(2, 8, 1, 2);";
        CHECK.due(made, 1, readme.stream().filter(line -> line.startsWith(made)).count());
        TaskKernel kernel = new TaskKernel(2, 8, 1, 2);
        shows("poke(0, 22)", kernel.poke(0, 22));
        shows("poke(1, 15)", kernel.poke(1, 15));
        shows("poke(2, 2 << 5 | 1)", kernel.poke(2, 2 << 5 | 1));
        shows("poke(3, 20)", kernel.poke(3, 20));
        shows("poke(4, 0)", kernel.poke(4, 0));
        shows("poke(10, 7 << 5 | 1)", kernel.poke(10, 7 << 5 | 1));
        shows("poke(11, 21)", kernel.poke(11, 21));
        shows("poke(12, 0)", kernel.poke(12, 0));
        shows("spawn(0, 3)", kernel.spawn(0, 3));
        shows("spawn(10, 1)", kernel.spawn(10, 1));
        shows("poke(4, 16)", kernel.poke(4, 16));
        shows("step()", kernel.step());
        shows("waiter(0, false, 0)", kernel.waiter(0, false, 0));
        shows("step()", kernel.step());
        shows("stack(1, 0)", kernel.stack(1, 0));
        shows("step()", kernel.step());
        shows("next()", kernel.next());
        shows("run(64)", kernel.run(64));
        shows("why(1)", kernel.why(1));
        shows("state(0)", kernel.state(0));
        shows("task(0, 4)", kernel.task(0, 4));
        shows("tick()", kernel.tick());
        shows("tick()", kernel.tick());
        shows("clock()", kernel.clock());
        shows("emitted()", kernel.emitted());
        shows("out(0)", kernel.out(0));
        shows("kill(0)", kernel.kill(0));
        shows("step()", kernel.step());
    }

    /** The next call that README.md shows must be this one, with this answer behind it. */
    private static void shows(String call, Object answer) {
        String line = shown.hasNext() ? shown.next() : "no call more;";
        String shownCall = line.substring(0, line.indexOf(';'));
        String shownAnswer = line.replaceFirst("^.*?// *", "").replaceFirst(":.*", "");
        CHECK.due("README.md shows " + line + " where kernel." + call, true, shownCall.equals("kernel." + call));
        CHECK.due("kernel." + call + ", shown with " + shownAnswer + " and not " + answer + ": alike", true,
            shownAnswer.equals(String.valueOf(answer)));
    }

    private static void tableNamesEveryCall() {
        for (Method method : TaskKernel.class.getDeclaredMethods()) {
            if (Modifier.isPublic(method.getModifiers())) {
                String row = "| `" + method.getName() + "(";
                CHECK.due("rows that begin with " + row, 1, readme.stream().filter(line -> line.startsWith(row)).count());
            }
        }
    }
}
