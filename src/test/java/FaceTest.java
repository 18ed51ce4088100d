import java.io.DataInputStream;
import java.io.IOException;
import java.lang.reflect.Constructor;
import java.lang.reflect.Field;
import java.lang.reflect.Method;
import java.lang.reflect.Modifier;
import java.nio.file.Files;
import java.nio.file.Path;
import java.util.ArrayList;
import java.util.Arrays;
import java.util.HashSet;
import java.util.List;
import java.util.Set;
import java.util.TreeSet;

/** The face of the document, and such rules of LANGUAGE.md as can be seen from outside. */
public final class FaceTest {
    private static final Check check = new Check();

    private static final String FACE = "sign(int)int end(int)boolean lengths()int council()int rule()int "
        + "man(int,int)int thing(int,int)int sheet(int,int,int,int)int talk(int,int,int)int turn(int)int "
        + "midnight(int)int evening()int undo()int next()int ahead(int)int strikes()int pays(int)int vote()int "
        + "mute()int when(int)int alike(int,int)int rivals()int order(int,int)int cover(int)int shares()int "
        + "most(int,int)int fro(int,int)int game(int,int,int)int wins(int,int)int silent(int,int,int,int)int "
        + "lot(int,int)int heard(int,int)int forget()int fits()int ask()int law()int rests(int)int years(int,int)int "
        + "keep(int)boolean again(int)boolean count(int)int row(int)long";

    private static final Set<String> LIBRARY = Set.of("java/lang/Object.<init>", "java/lang/Math.min", "java/lang/Math.max",
        "java/lang/Integer.bitCount", "java/lang/String.length", "java/lang/String.charAt",
        "java/lang/System.arraycopy", "java/util/NoSuchElementException.<init>");

    public static void main(String[] args) throws IOException {
        Class<?> face = HatAtCouncil.class;
        check.due("NONE", HatAtCouncil.NONE, -1);
        publicMembers(face);
        List<Class<?>> classes = new ArrayList<>(Arrays.asList(face.getDeclaredClasses()));
        for (Class<?> c : classes) {
            check.due(c + " is static", Modifier.isStatic(c.getModifiers()), true);
            check.due(c + " is public or protected", (c.getModifiers() & 5) != 0, false);
        }
        classes.add(face);
        check.due("no more than twelve classes", classes.size() <= 12, true);
        for (Class<?> c : classes) {
            members(c, face);
            library(c);
        }
        source();
        check.end();
    }

    private static void publicMembers(Class<?> face) {
        check.due("public final", face.getModifiers() == (Modifier.PUBLIC | Modifier.FINAL), true);
        Set<String> due = new TreeSet<>(Arrays.asList(FACE.split(" ")));
        Set<String> got = new TreeSet<>();
        for (Method m : face.getDeclaredMethods()) {
            if (!Modifier.isPrivate(m.getModifiers())) {
                List<String> types = new ArrayList<>();
                for (Class<?> t : m.getParameterTypes()) {
                    types.add(t.getName());
                }
                got.add(m.getName() + "(" + String.join(",", types) + ")" + m.getReturnType().getName());
                check.due(m + " is public alone", (m.getModifiers() & ~Modifier.PUBLIC) == 0, true);
            }
        }
        check.due("the face: " + got, got.equals(due), true);
        for (Field f : face.getDeclaredFields()) {
            boolean constant = f.getName().equals("NONE");
            check.due(f + " is private", Modifier.isPrivate(f.getModifiers()), !constant);
        }
        Constructor<?>[] made = face.getDeclaredConstructors();
        check.due("one constructor", made.length, 1);
        check.due("it is public", Modifier.isPublic(made[0].getModifiers()), true);
    }

    private static void members(Class<?> c, Class<?> face) {
        Set<String> names = new HashSet<>();
        for (Method m : face.getMethods()) {
            if (m.getDeclaringClass() == face) {
                names.add(m.getName());
            }
        }
        for (Method m : c.getDeclaredMethods()) {
            boolean own = Modifier.isPublic(m.getModifiers()) && c == face;
            check.due(m + " bears a name of the face", names.contains(m.getName()), own);
            check.due(m + " takes no more than seven", m.getParameterCount() <= 7, true);
        }
        int fields = 0;
        for (Field f : c.getDeclaredFields()) {
            boolean isStatic = Modifier.isStatic(f.getModifiers());
            check.due(f + " is final if it is static", !isStatic || Modifier.isFinal(f.getModifiers()), true);
            fields += isStatic ? 0 : 1;
        }
        check.due(c + " has no more than twenty fields", fields <= 20, true);
    }

    /** Reads the pool of a class file: whom it calls outside its own file. */
    private static void library(Class<?> c) throws IOException {
        try (DataInputStream in = new DataInputStream(c.getResourceAsStream("/" + c.getName() + ".class"))) {
            in.skipBytes(8);
            int size = in.readUnsignedShort();
            String[] texts = new String[size];
            int[] first = new int[size];
            int[] second = new int[size];
            boolean[] isCall = new boolean[size];
            for (int i = 1; i < size; i++) {
                int tag = in.readUnsignedByte();
                check.due(c + " makes calls at run time", tag == 15 || tag == 16 || tag == 18, false);
                isCall[i] = tag >= 9 && tag <= 11;
                if (tag == 1) {
                    texts[i] = in.readUTF();
                } else if (tag == 7 || tag == 8) {
                    first[i] = in.readUnsignedShort();
                } else if (isCall[i] || tag == 12) {
                    first[i] = in.readUnsignedShort();
                    second[i] = in.readUnsignedShort();
                } else {
                    in.skipBytes(4);
                    if (tag == 5 || tag == 6) {
                        in.skipBytes(4);
                        i++;
                    }
                }
            }
            for (int i = 1; i < size; i++) {
                String owner = isCall[i] ? texts[first[first[i]]] : "HatAtCouncil";
                if (!owner.startsWith("HatAtCouncil")) {
                    String call = owner + "." + texts[first[second[i]]];
                    check.due(c + " uses " + call, LIBRARY.contains(call), true);
                }
            }
        }
    }

    private static void source() throws IOException {
        List<String> lines = Files.readAllLines(Path.of("src/main/java/HatAtCouncil.java"));
        String[] barred = {"\\bwhile\\b", "\\bdo\\b", "\\btry\\b", "\\bcatch\\b", "\\bfinally\\b", "\\bsynchronized\\b",
            "\\bassert\\b", "->", "::", "\\bpackage\\b", "\\bfloat\\b", "\\bdouble\\b", "\\binstanceof\\b"};
        int opened = 0;
        int depth = 0;
        for (int i = 0; i < lines.size(); i++) {
            String code = lines.get(i).replaceAll("\"[^\"]*\"", "").replaceAll("(//|/\\*).*", "");
            for (String word : barred) {
                check.due("line " + (i + 1) + " has " + word, code.split(word, 2).length > 1, false);
            }
            for (char sign : lines.get(i).toCharArray()) {
                check.due("line " + (i + 1) + ": sign " + (int) sign, sign >= 32 && sign < 127, true);
            }
            int indent = code.length() - code.stripLeading().length();
            if (code.matches(" {4,8}[a-zA-Z].*\\) (throws \\w+ )?\\{")) {
                opened = i;
                depth = indent;
            } else if (code.strip().equals("}") && indent == depth) {
                check.due("the method that ends at line " + (i + 1) + " is short", i - opened <= 60, true);
                depth = 0;
            }
        }
    }
}
