import java.io.IOException;
import java.lang.reflect.InvocationTargetException;
import java.lang.reflect.Method;
import java.lang.reflect.Modifier;
import java.nio.file.Files;
import java.nio.file.Path;
import java.util.Set;
import java.util.TreeSet;
import java.util.regex.Matcher;
import java.util.regex.Pattern;
import java.util.stream.Stream;

/** What README.md says holds: its example answers so, its texts are taken, all calls and tests stand in it. */
public final class ReadmeTest {
    private static final Check check = new Check();

    public static void main(String[] args) throws IOException, ReflectiveOperationException {
        String page = Files.readString(Path.of("README.md"));
        example(page);
        texts(page);
        calls(page);
        tests(page);
        check.end();
    }

    private static void example(String page) throws ReflectiveOperationException {
        HatAtCouncil x = new HatAtCouncil();
        Matcher line = Pattern.compile("(?m)^x\\.(\\w+)\\((.*)\\); +// (-?\\w+)").matcher(page);
        int lines = 0;
        while (line.find()) {
            String answer = String.valueOf(answer(x, line.group(1), line.group(2)));
            check.due("README.md, x." + line.group(1), " " + answer, " " + line.group(3));
            lines++;
        }
        int due = page.split("\nx\\.", -1).length - 1;
        check.due("README.md: lines of the example that tell an answer", lines, due);
        check.due("README.md has an example", due > 0, true);
    }

    private static Object answer(HatAtCouncil x, String name, String numbers) throws ReflectiveOperationException {
        Object[] given = Stream.of(numbers.split(", *")).filter(s -> !s.isEmpty()).map(Integer::decode).toArray();
        for (Method m : HatAtCouncil.class.getMethods()) {
            if (m.getName().equals(name) && m.getParameterCount() == given.length) {
                try {
                    return m.invoke(x, given);
                } catch (InvocationTargetException e) {
                    return e.getCause().getClass().getSimpleName();
                }
            }
        }
        return "no such call";
    }

    private static void texts(String page) {
        HatAtCouncil x = Check.council("3ab;2ac;9");
        named(page, "3ab;2ac;9");
        check.due("README.md, council()", x.count(0), 3);
        named(page, "23111111");
        check.due("README.md, lengths()", Check.lengths(x, "23111111"), 11);
        for (String rule : new String[] {"w*3-t+b", "-(p<2)*9+l/b"}) {
            named(page, rule);
            check.due("README.md, rule() of " + rule, Check.rule(x, rule), 0);
        }
        String evening = "";
        for (String act : new String[] {"n3", "w0a", "z1", "q01", "b0a", "c1b"}) {
            named(page, act);
            evening += act;
        }
        check.due("README.md, evening()", Check.evening(x, evening) >= 0, true);
        int first = Check.law(x, "w*3-t+b");
        check.due("README.md, an empty text is the first rule", Check.law(x, ""), first);
        check.due("README.md, a refused rule", Check.rule(x, "w+"), -1 - 2);
        check.due("README.md, a refused law", Check.law(x, "w+"), -10000 - 2);
        check.due("README.md, a refused text is emptied", x.count(11), 0);
    }

    private static void calls(String page) {
        Set<String> table = new TreeSet<>();
        Matcher row = Pattern.compile("(?m)^\\| [a-z ,]+ \\| (`\\w+`(?:, `\\w+`)*) \\|$").matcher(page);
        while (row.find()) {
            for (String name : row.group(1).split(", ")) {
                check.due("README.md tells " + name + " once", table.add(name.replace("`", "")), true);
            }
        }
        Set<String> face = new TreeSet<>();
        for (Method m : HatAtCouncil.class.getDeclaredMethods()) {
            if (m.getModifiers() == Modifier.PUBLIC) {
                face.add(m.getName());
            }
        }
        check.due("README.md, its calls", " " + table, " " + face);
    }

    private static void tests(String page) throws IOException {
        Set<String> there = new TreeSet<>();
        try (Stream<Path> files = Files.list(Path.of("src/test/java"))) {
            files.map(f -> f.getFileName().toString().replace(".java", ""))
                .filter(name -> name.endsWith("Test")).forEach(there::add);
        }
        Set<String> told = new TreeSet<>();
        Matcher name = Pattern.compile("`(\\w+Test)`").matcher(page);
        while (name.find()) {
            told.add(name.group(1));
        }
        check.due("README.md, its tests", " " + told, " " + there);
        check.due("README.md: .ci/run can be run", Files.isExecutable(Path.of(".ci/run")), true);
    }

    private static void named(String page, String text) {
        check.due("README.md tells " + text, page.contains("`" + text + "`"), true);
    }
}
