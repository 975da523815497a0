import java.io.IOException;
import java.lang.reflect.Method;
import java.lang.reflect.Modifier;
import java.nio.charset.StandardCharsets;
import java.nio.file.Files;
import java.nio.file.Path;
import java.util.ArrayList;
import java.util.Arrays;
import java.util.HashMap;
import java.util.List;
import java.util.Map;
import java.util.Set;
import java.util.TreeSet;
import java.util.regex.Matcher;
import java.util.regex.Pattern;

/** The tables of README.md: what calls there are, what their numbers may be, what the refusals are called. */
public final class ReadmeTest {
    private static final Pattern CALL = Pattern.compile("\\| `(\\w+)\\((.*?)\\)` \\|(.*?)\\|.*\\|");
    private static final Pattern RANGE = Pattern.compile("(\\w+) (\\S+?)\\.\\.(\\S+)");
    private static final Pattern CALLED = Pattern.compile("\\| (-\\d+) \\| `(\\w+)` \\|.*\\|");

    public static void main(String[] args) throws IOException, ReflectiveOperationException {
        String page = Files.readString(Path.of("README.md"), StandardCharsets.UTF_8);
        Map<String, Method> face = new HashMap<>();
        for (Method m : ClueLeave.class.getDeclaredMethods()) {
            if (Modifier.isPublic(m.getModifiers())) {
                face.put(m.getName(), m);
            }
        }
        called(page);
        calls(page, face);
        eachInAnExample(page, face.keySet());
        stateAhead(page, face);
        ownTests(page);
        Due.end("ReadmeTest");
    }

    private static void called(String page) throws ReflectiveOperationException {
        int n = 0;
        for (Matcher m = CALLED.matcher(page); m.find(); n++) {
            Due.due(m.group(2), ClueLeave.class.getField(m.group(2)).getInt(null), Integer.parseInt(m.group(1)));
        }
        Due.due("numbers that are called something", n, 4);
    }

    private static void calls(String page, Map<String, Method> face) throws ReflectiveOperationException {
        Set<String> seen = new TreeSet<>();
        for (Matcher m = CALL.matcher(page); m.find();) {
            Method call = face.get(m.group(1));
            String[] names = m.group(2).isEmpty() ? new String[0] : m.group(2).split(", ");
            Due.due("a call: " + m.group(1), call != null && seen.add(m.group(1)) ? 1 : 0, 1);
            if (call != null) {
                Due.due("numbers of " + m.group(1), names.length, call.getParameterCount());
                numbers(call, names, m.group(3));
            }
        }
        Due.due("all calls", seen.size(), face.size());
    }

    /** Each number at its least and its most, and one beyond, the others being the least that they may be. */
    private static void numbers(Method call, String[] names, String told) throws ReflectiveOperationException {
        Map<String, String[]> ranges = new HashMap<>();
        for (Matcher m = RANGE.matcher(told); m.find();) {
            Due.due(call.getName() + " has " + m.group(1), Arrays.asList(names).contains(m.group(1)) ? 1 : 0, 1);
            ranges.put(m.group(1), new String[] {m.group(2), m.group(3).replace(",", "")});
        }
        Map<String, Integer> least = new HashMap<>(Map.of("CLUES", 4, "SUSPECTS", 4, "ALL", 15, "EVERY", 3, "ITEMS", 40));
        for (String name : names) {
            least.put(name, ranges.containsKey(name) ? Integer.parseInt(ranges.get(name)[0]) : 0);
        }
        for (String name : names) {
            String[] range = ranges.get(name);
            int from = range == null ? Integer.MIN_VALUE : least.get(name);
            int to = range == null ? Integer.MAX_VALUE : valueOf(range[1], least);
            sound(call, names, least, name, from);
            sound(call, names, least, name, to);
            if (range != null) {
                refused(call, names, least, name, from - 1);
                refused(call, names, least, name, to + 1);
            }
        }
    }

    /** Such as 40, or ITEMS, or ITEMS-n. */
    private static int valueOf(String told, Map<String, Integer> known) {
        String[] parts = told.split("-");
        int value = known.containsKey(parts[0]) ? known.get(parts[0]) : Integer.parseInt(parts[0]);
        for (int p = 1; p < parts.length; p++) {
            value -= known.containsKey(parts[p]) ? known.get(parts[p]) : Integer.parseInt(parts[p]);
        }
        return value;
    }

    private static void sound(Method call, String[] names, Map<String, Integer> others, String name, int value)
            throws ReflectiveOperationException {
        int got = answer(call, names, others, name, value);
        boolean isSound = got != Due.BAD && got != Due.PLACE && got != Due.SIZE && got != Due.NULL;
        Due.due(call.getName() + ", " + name + " " + value + ", was " + got + ": sound", isSound ? 1 : 0, 1);
    }

    private static void refused(Method call, String[] names, Map<String, Integer> others, String name, int value)
            throws ReflectiveOperationException {
        boolean isPlace = name.equals("i") || name.equals("j") || name.equals("n") && call.getName().equals("copy");
        boolean isSize = call.getName().equals("row") && name.equals("n") && value < 0;
        int due = isPlace ? Due.PLACE : isSize ? Due.SIZE : Due.BAD;
        Due.due(call.getName() + ", " + name + " " + value, answer(call, names, others, name, value), due);
    }

    /** What the page's own city answers, with all rows full and both images kept. */
    private static int answer(Method call, String[] names, Map<String, Integer> others, String name, int value)
            throws ReflectiveOperationException {
        ClueLeave x = Due.of("c4,1;t3,3,0;g4,2,0;v5,2,0;a8,3,0;");
        for (int row = 0; row < 8; row++) {
            x.row(row, 0, 40);
        }
        x.image(0);
        x.image(1);
        Object[] given = new Object[names.length];
        for (int p = 0; p < names.length; p++) {
            given[p] = names[p].equals(name) ? value : others.get(names[p]);
        }
        return (Integer) call.invoke(x, given);
    }

    private static void eachInAnExample(String page, Set<String> names) {
        for (String name : names) {
            Due.due(name + " has an example", page.contains("\nx." + name + "(") ? 1 : 0, 1);
        }
    }

    /** The page lists the calls that answer STATE ahead of BAD where there is no city. */
    private static void stateAhead(String page, Map<String, Method> face) throws ReflectiveOperationException {
        Matcher m = Pattern.compile("where there is no\\s+city, ([^.]*?) answer `STATE` ahead of `BAD`").matcher(page);
        Due.due("there is the list", m.find() ? 1 : 0, 1);
        Set<String> listed = new TreeSet<>(Arrays.asList(m.group(1).replaceAll("[`,]|\\band\\b", "").trim().split("\\s+")));
        Set<String> found = new TreeSet<>();
        for (Method call : face.values()) {
            Object[] given = new Object[call.getParameterCount()];
            Arrays.fill(given, Integer.MIN_VALUE);
            if (given.length > 0 && (Integer) call.invoke(new ClueLeave(), given) == Due.STATE) {
                found.add(call.getName());
            }
        }
        Due.due("STATE ahead of BAD: " + found + ", listed are " + listed, found.equals(listed) ? 1 : 0, 1);
    }

    /** The page's table of tests has each of them. */
    private static void ownTests(String page) throws IOException {
        List<Path> files = new ArrayList<>();
        try (var all = Files.list(Path.of("src/test/java"))) {
            all.filter(f -> f.toString().endsWith("Test.java")).forEach(files::add);
        }
        for (Path file : files) {
            String name = file.getFileName().toString().replace(".java", "");
            Due.due("the table of tests has " + name, page.matches("(?s).*\n\\|[^|\n]*\\b" + name + "\\b.*") ? 1 : 0, 1);
        }
    }
}
