import java.io.IOException;
import java.lang.management.ManagementFactory;
import java.lang.reflect.Constructor;
import java.lang.reflect.Field;
import java.lang.reflect.Method;
import java.lang.reflect.Modifier;
import java.nio.file.Files;
import java.nio.file.Path;
import java.util.ArrayList;
import java.util.Arrays;
import java.util.List;
import java.util.Set;
import java.util.TreeSet;
import java.util.regex.Matcher;
import java.util.regex.Pattern;
import java.util.stream.Collectors;

/** The public face, and what of ../shared/LANGUAGE.md can be seen from outside or in the text of the class. */
public final class LanguageTest {
    private static final Due DUE = new Due("LanguageTest");
    private static final Set<String> FACE = Set.of(
            "int addFlat(int)", "int addDevice(int,int)", "int set(int,int)", "int read(int,int)",
            "int mark(int,boolean)", "int readAll()", "int move(int,int)", "int between(int,int)",
            "int close()", "int correct(int,int,int)", "int type(char)", "int clearText()",
            "int undo()", "int keep()", "int restore()", "int flat(int,int)", "int device(int,int)",
            "int draft(int,boolean)", "int bill(int,int,boolean,boolean)", "int units(int,int)",
            "int greatest(int)", "int billIf(int,int)", "int bestShare(int)", "int count(int)");
    private static final Set<String> CONSTANTS =
            Set.of("UNKNOWN", "BAD_VALUE", "FULL", "NOT_POSSIBLE", "NONE");

    public static void main(String[] args) throws IOException {
        face();
        classesInside();
        sections();
        source();
        madeObjects();
        DUE.end();
    }

    private static boolean isPrivate(int modifiers) {
        return Modifier.isPrivate(modifiers);
    }

    private static void face() {
        Class<?> type = HeatBills.class;
        DUE.is("modifiers of the class", type.getModifiers(), Modifier.PUBLIC | Modifier.FINAL);
        Set<String> face = new TreeSet<>();
        Set<String> hidden = new TreeSet<>();
        for (Method method : type.getDeclaredMethods()) {
            if (isPrivate(method.getModifiers())) {
                hidden.add(method.getName());
                continue;
            }
            DUE.is("modifiers of " + method, method.getModifiers(), Modifier.PUBLIC);
            String parameters = Arrays.stream(method.getParameterTypes())
                    .map(Class::getName).collect(Collectors.joining(","));
            face.add(method.getReturnType() + " " + method.getName() + "(" + parameters + ")");
        }
        DUE.holds("the face is the document's: " + face, face.equals(FACE));
        for (String member : FACE) {
            String name = member.substring(4, member.indexOf('('));
            DUE.holds("no private method is named " + name, !hidden.contains(name));
        }
        for (Field field : type.getDeclaredFields()) {
            boolean isConstant = CONSTANTS.contains(field.getName());
            DUE.holds(field + " is private or a constant", isConstant || isPrivate(field.getModifiers()));
            if (isConstant) {
                DUE.is("modifiers of " + field, field.getModifiers(),
                        Modifier.PUBLIC | Modifier.STATIC | Modifier.FINAL);
            }
        }
        Constructor<?>[] constructors = type.getDeclaredConstructors();
        DUE.is("constructors", constructors.length, 1);
        DUE.is("modifiers of the constructor", constructors[0].getModifiers(), Modifier.PUBLIC);
        DUE.is("arguments of the constructor", constructors[0].getParameterCount(), 0);
    }

    private static void classesInside() {
        Class<?>[] inside = HeatBills.class.getDeclaredClasses();
        DUE.holds("at most twelve classes", inside.length < 12);
        for (Class<?> type : inside) {
            DUE.holds(type + " is static", Modifier.isStatic(type.getModifiers()));
            DUE.holds(type + " is not public", !Modifier.isPublic(type.getModifiers()));
            DUE.holds(type + " has at most twenty fields", type.getDeclaredFields().length <= 20);
            for (Method method : type.getDeclaredMethods()) {
                DUE.holds(method + " takes at most seven", method.getParameterCount() <= 7);
                DUE.holds(method + " bears no name of the face", FACE.stream()
                        .noneMatch(member -> member.startsWith("int " + method.getName() + "(")));
            }
        }
    }

    private static String classText() throws IOException {
        return Files.readString(Path.of(System.getProperty("heatbills.source", "src/main/java/HeatBills.java")));
    }

    /** The headings that the document wants ahead of the calls, and the calls behind each. */
    private static void sections() throws IOException {
        Pattern section = Pattern.compile("Ahead of the calls (.*?) the interface says: ---- ([^.]*)\\.");
        List<String> wanted = new ArrayList<>();
        Matcher told = section.matcher(DUE.document());
        while (told.find()) {
            wanted.add("---- " + told.group(2));
            for (String call : told.group(1).split(", ")) {
                wanted.add(call.replace("`", ""));
            }
        }
        List<String> found = new ArrayList<>();
        Matcher line = Pattern.compile("(?m)^    (?:// (---- .*)|public int (\\w+)\\(.*)$").matcher(classText());
        while (line.find()) {
            found.add(line.group(1) != null ? line.group(1) : line.group(2));
        }
        DUE.is("headings and calls", found.size(), 6 + FACE.size());
        DUE.holds("each call stands behind its heading: " + found, found.equals(wanted));
    }

    private static void source() throws IOException {
        String whole = classText();
        String code = whole.replaceAll("(?s)/\\*.*?\\*/", "").replaceAll("//[^\n]*", "");
        DUE.holds("signs of the source are 1 to 127", whole.chars().allMatch(sign -> sign > 0 && sign < 128));
        DUE.holds("no package", !code.contains("package "));
        String[] words = {"throw", "throws", "try", "catch", "finally", "synchronized", "assert",
                "native", "volatile", "transient", "var", "yield", "Object", "Exact",
                "hashCode", "toString", "System.exit", "Thread", "Random"};
        for (String word : words) {
            DUE.holds("no " + word, !Pattern.compile("\\b" + word + "\\b").matcher(code).find());
        }
        for (String sign : new String[] {"->", "::", "\"", "@", "..."}) {
            DUE.holds("no " + sign, !code.contains(sign));
        }
        Matcher imports = Pattern.compile("import ([^;]*);").matcher(code);
        while (imports.find()) {
            DUE.holds("import " + imports.group(1), imports.group(1).equals("java.util.Arrays"));
        }
        Matcher library = Pattern.compile("\\b(?:System|Arrays|Math|Integer|Long)\\.\\w+").matcher(code);
        while (library.find()) {
            DUE.holds(library.group(), Set.of("System.arraycopy", "Arrays.fill").contains(library.group()));
        }
        Matcher truths = Pattern.compile("boolean\\[\\] (\\w+);").matcher(code);
        while (truths.find()) {
            String name = truths.group(1);
            boolean isCopied = Pattern.compile("(?:arraycopy|fill)\\([^;]*\\b" + name + "\\b").matcher(code).find();
            DUE.holds("the library copies and fills numbers alone, not " + name, !isCopied);
        }
        // a nested class or an if stands deeper: a method's last line is the next "    }" or "        }"
        Matcher methods = Pattern.compile("(?ms)^( {4}| {8})(?! |private static final class)[^\n;=]*\\) \\{\n.*?^\\1\\}").matcher(code);
        int found = 0;
        while (methods.find()) {
            found++;
            DUE.holds("at most sixty lines: " + methods.group().split("\n")[0],
                    methods.group().split("\n").length <= 60);
        }
        DUE.holds("methods were found", found > 40);
    }

    /** The rows are made in the constructor: the room of a run isn't used up by its calls. */
    private static void madeObjects() {
        com.sun.management.ThreadMXBean threads =
                (com.sun.management.ThreadMXBean) ManagementFactory.getThreadMXBean();
        long thread = Thread.currentThread().getId();
        callEverything(new HeatBills());
        HeatBills x = new HeatBills();
        threads.getThreadAllocatedBytes(thread);
        long before = threads.getThreadAllocatedBytes(thread);
        callEverything(x);
        long made = threads.getThreadAllocatedBytes(thread) - before;
        DUE.holds("500 calls make no objects, but " + made + " bytes", made < 2000);
    }

    private static void callEverything(HeatBills x) {
        for (int i = 0; i < 20; i++) {
            x.addFlat(10 + i);
            x.addDevice(i % 8, 1 + i);
            x.set(0, 5000 + i);
            x.read(i, 3 * i + 1);
            x.mark(i, i % 3 == 0);
            x.type("0=9;1=?".charAt(i % 7));
            x.readAll();
            x.move(i % 8, 5);
            x.between(i % 8, i);
            x.flat(i % 8, 5);
            x.device(i, 5);
            x.draft(i % 8, true);
            x.greatest(i % 8);
            x.billIf(i % 8, i);
            x.bestShare(i % 8);
            x.count(i % 15);
            x.keep();
            x.restore();
            x.undo();
        }
        for (int i = 0; i < 20; i++) {
            x.close();
            x.correct(i % 4, i, 7);
            x.bill(i % 4, i % 8, false, true);
            x.units(i % 4, i);
            x.clearText();
            x.undo();
        }
    }
}
