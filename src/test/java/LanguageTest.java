import java.io.ByteArrayInputStream;
import java.io.DataInputStream;
import java.io.IOException;
import java.io.InputStream;
import java.lang.reflect.Constructor;
import java.lang.reflect.Field;
import java.lang.reflect.Method;
import java.lang.reflect.Modifier;
import java.nio.file.Files;
import java.nio.file.Path;
import java.util.ArrayList;
import java.util.HashSet;
import java.util.List;
import java.util.Set;
import java.util.TreeSet;
import java.util.regex.Matcher;
import java.util.regex.Pattern;

/** What can be told by a machine of ../shared/LANGUAGE.md; the argument is the path of the source. */
public final class LanguageTest {
    private static final String FACE = """
        int as(int,int)
        int again()
        int blank()
        int build(int,int)
        int count(int)
        long digest()
        int fault()
        int forget()
        int give()
        int house(int,int)
        int image()
        int letter(int)
        int neighbours(int,int)
        int night()
        int order(int)
        int plot(int,int)
        int post(int,int)
        int restore()
        int rings()
        int see(int,int,int)
        int snow()
        int square()
        int swap(int,int)
        int when(int,int)
        int where(int,int)
        int will(int,int)
        int wish(int,int,int)
        int years(int,int,int)
        """;
    private static final Set<String> LIBRARY = Set.of(
        "java/lang/Object.<init>", "java/lang/Math.abs", "java/lang/Math.min", "java/lang/Math.max",
        "java/lang/System.arraycopy", "java/lang/String.indexOf");
    private static final Set<String> STATIC_TYPES = Set.of(
        "int", "long", "boolean", "char", "class java.lang.String", "class [I", "class [J", "class [C", "class [B");

    private final List<String> faults = new ArrayList<>();

    public static void main(String[] args) throws Exception {
        LanguageTest test = new LanguageTest();
        test.words(args[0]);
        test.face();
        List<Class<?>> classes = new ArrayList<>(List.of(TurningTown.class.getDeclaredClasses()));
        test.refuse(classes.size() > 11, "rule 11: too many classes");
        for (Class<?> nested : classes) {
            int flags = nested.getModifiers();
            test.refuse(!Modifier.isStatic(flags) || Modifier.isPublic(flags) || Modifier.isProtected(flags),
                "rule 1, 2: " + nested);
        }
        classes.add(TurningTown.class);
        for (Class<?> one : classes) {
            test.members(one);
            test.calls(one);
        }
        test.faults.forEach(System.out::println);
        System.out.println(classes.size() + " classes, " + test.faults.size() + " faults");
        System.exit(test.faults.isEmpty() ? 0 : 1);
    }

    private void refuse(boolean isWrong, String why) {
        if (isWrong) {
            faults.add(why);
        }
    }

    private void words(String path) throws IOException {
        String source = Files.readString(Path.of(path));
        String code = source.replaceAll("(?s)/\\*.*?\\*/", "").replaceAll("//[^\n]*", "")
            .replaceAll("\"[^\"\n]*\"", "\"\"");
        String banned = "\\b(throw|throws|try|catch|finally|synchronized|assert|import|package|volatile|native|"
            + "transient|var|record|sealed|instanceof|Exact|System\\.out|Random|Thread)\\b|->|::|@|static \\{";
        Matcher found = Pattern.compile(banned).matcher(code);
        while (found.find()) {
            faults.add("a word that is out: " + found.group());
        }
        refuse(!source.chars().allMatch(sign -> sign == '\n' || sign >= 32 && sign < 127), "rule 4: signs");
        refuse(source.contains("\t"), "a tab");
        lengths(code.split("\n"));
    }

    /** Methods begin and end at one of two depths, as the file is laid out. */
    private void lengths(String[] lines) {
        int begin = -1;
        String end = "";
        for (int i = 0; i < lines.length; i++) {
            Matcher head = Pattern.compile("^( {4}| {8})[a-zA-Z].*\\) \\{$").matcher(lines[i]);
            if (head.matches() && !lines[i].matches(" *(if|for|while|switch) .*") && begin < 0) {
                begin = i;
                end = head.group(1) + "}";
            }
            if (begin >= 0 && lines[i].equals(end)) {
                refuse(i - begin >= 60, "rule 11: a long method: " + lines[begin].trim());
                begin = -1;
            }
        }
    }

    private void face() {
        Class<?> face = TurningTown.class;
        refuse(face.getModifiers() != (Modifier.PUBLIC | Modifier.FINAL), "rule 1: public and final");
        Set<String> due = new TreeSet<>(List.of(FACE.strip().split("\n")));
        Set<String> got = new TreeSet<>();
        for (Method method : face.getDeclaredMethods()) {
            if (!Modifier.isPrivate(method.getModifiers())) {
                refuse(method.getModifiers() != Modifier.PUBLIC, "rule 1: " + method);
                String told = method.toString();
                got.add(method.getReturnType() + " " + told.substring(told.indexOf('.') + 1));
            }
        }
        refuse(!got.equals(due), "rule 1: the face is " + got);
        Constructor<?>[] makers = face.getDeclaredConstructors();
        refuse(makers.length != 1 || makers[0].getModifiers() != Modifier.PUBLIC
            || makers[0].getParameterCount() != 0, "rule 1: constructors");
        Set<String> constants = new TreeSet<>();
        for (Field field : face.getDeclaredFields()) {
            if (!Modifier.isPrivate(field.getModifiers())) {
                constants.add(field.getName());
            }
        }
        refuse(!constants.equals(Set.of("NONE", "UNKNOWN", "OUTSIDE", "STATE", "FULL")), "rule 1: " + constants);
    }

    private void members(Class<?> one) {
        Set<String> face = new HashSet<>();
        for (String line : FACE.strip().split("\n")) {
            face.add(line.substring(line.indexOf(' ') + 1, line.indexOf('(')));
        }
        int fields = 0;
        for (Field field : one.getDeclaredFields()) {
            boolean isStatic = Modifier.isStatic(field.getModifiers());
            fields += isStatic ? 0 : 1;
            refuse(isStatic && !(Modifier.isFinal(field.getModifiers())
                && STATIC_TYPES.contains(field.getType().toString())), "rule 5: " + field);
        }
        refuse(fields > 20, "rule 11: too many fields in " + one);
        for (Method method : one.getDeclaredMethods()) {
            refuse(method.getParameterCount() > 7, "rule 11: " + method);
            refuse(method.isSynthetic(), "made by the compiler: " + method);
            boolean isFace = one == TurningTown.class && Modifier.isPublic(method.getModifiers());
            refuse(!isFace && face.contains(method.getName()), "rule 1: the name of " + method);
        }
    }

    /** Reads the constants of a class file for the methods that it calls outside itself. */
    private void calls(Class<?> one) throws IOException {
        String file = one.getName() + ".class";
        try (InputStream in = LanguageTest.class.getResourceAsStream(file)) {
            DataInputStream data = new DataInputStream(new ByteArrayInputStream(in.readAllBytes()));
            data.readInt();
            data.readInt();
            int size = data.readUnsignedShort();
            String[] texts = new String[size];
            int[] first = new int[size];
            int[] second = new int[size];
            boolean[] isMethod = new boolean[size];
            for (int i = 1; i < size; i++) {
                int tag = data.readUnsignedByte();
                switch (tag) {
                    case 1 -> texts[i] = data.readUTF();
                    case 3, 4 -> data.readInt();
                    case 5, 6 -> {
                        data.readLong();
                        i++;
                    }
                    case 7, 8 -> first[i] = data.readUnsignedShort();
                    case 9, 10, 11, 12 -> {
                        first[i] = data.readUnsignedShort();
                        second[i] = data.readUnsignedShort();
                        isMethod[i] = tag == 10 || tag == 11;
                    }
                    default -> throw new IOException("constant " + tag + " in " + file);
                }
            }
            for (int i = 1; i < size; i++) {
                if (isMethod[i]) {
                    String call = texts[first[first[i]]] + "." + texts[first[second[i]]];
                    refuse(!call.startsWith("TurningTown") && !LIBRARY.contains(call), "rule 4: " + call);
                }
            }
        }
    }
}
