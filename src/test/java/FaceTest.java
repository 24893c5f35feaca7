import java.io.IOException;
import java.lang.reflect.Constructor;
import java.lang.reflect.Field;
import java.lang.reflect.Method;
import java.lang.reflect.Modifier;
import java.nio.file.Files;
import java.nio.file.Path;
import java.util.Random;
import java.util.Set;
import java.util.TreeSet;
import java.util.regex.Matcher;
import java.util.regex.Pattern;

/** The face of the class (rule 1 of LANGUAGE.md), and that no call throws, whatever it is given. */
public final class FaceTest {
    private static final String FACE = "alight() age(int,int) bestPrice(int,int) best(int) board() car(int) drift(int) ends(int) fair() fault()"
        + " feed(int) feel(int,int) fetch(int) front(int) goBack(int) goer(int,int) hour(int) join(int) judge() keep(int) laws(int) leave(int)"
        + " let(int,int,int,int) meet(int,int,int,int) off(int) same(int,int,int) see(int,int,boolean) seed(int) speed(int) tear() told(int)"
        + " undo() waits(int) was(int,int,int,int) wind(int,int) write(int,int) yard()";
    private static String document = "";
    private static int wrong = 0;

    private static void claim(boolean so, String what) {
        if (!so) {
            wrong++;
            System.out.println("not so: " + what);
        }
    }

    private static String signature(Method m) {
        StringBuilder b = new StringBuilder(m.getName()).append("(");
        for (Class<?> c : m.getParameterTypes()) {
            b.append(b.charAt(b.length() - 1) == '(' ? "" : ",").append(c.getName());
        }
        return b.append(")").toString();
    }

    /** The document's own lines, the names of what a method takes left out. */
    private static Set<String> documented() {
        Set<String> all = new TreeSet<>();
        Matcher m = Pattern.compile("(?m)^    public int (\\w+)\\((.*)\\);$").matcher(document);
        while (m.find()) {
            all.add(m.group(1) + "(" + m.group(2).replaceAll(" \\w+(, |$)", "$1").replace(" ", "") + ")");
        }
        return all;
    }

    private static void face() {
        claim(Modifier.isFinal(CaptiveCar.class.getModifiers()) && Modifier.isPublic(CaptiveCar.class.getModifiers()), "the class is public and final");
        Set<String> due = new TreeSet<>(Set.of(FACE.split(" ")));
        Set<String> names = new TreeSet<>();
        Set<String> found = new TreeSet<>();
        for (Method m : CaptiveCar.class.getDeclaredMethods()) {
            if (Modifier.isPublic(m.getModifiers())) {
                found.add(signature(m));
                names.add(m.getName());
                claim(m.getReturnType() == int.class && !Modifier.isStatic(m.getModifiers()), m + " answers an int");
            } else {
                claim(Modifier.isPrivate(m.getModifiers()), m + " is private");
            }
        }
        claim(found.equals(due), "the methods are those of the face: " + found);
        claim(document.isEmpty() || documented().equals(due), "the face is the document's: " + documented());
        for (Field f : CaptiveCar.class.getDeclaredFields()) {
            boolean constant = Set.of("NONE", "UNKNOWN", "OUTSIDE", "NOT", "FULL").contains(f.getName());
            claim(constant ? Modifier.isPublic(f.getModifiers()) : Modifier.isPrivate(f.getModifiers()), f + " is as visible as it is due");
            claim(!Modifier.isStatic(f.getModifiers()) || Modifier.isFinal(f.getModifiers()), f + " is final");
        }
        Constructor<?>[] made = CaptiveCar.class.getDeclaredConstructors();
        claim(made.length == 1 && made[0].getParameterCount() == 0 && Modifier.isPublic(made[0].getModifiers()), "one constructor");
        inside(names);
        claim(CaptiveCar.NONE == -1 && CaptiveCar.UNKNOWN == -1000000001 && CaptiveCar.OUTSIDE == -1000000002
            && CaptiveCar.NOT == -1000000003 && CaptiveCar.FULL == -1000000004, "the constants");
    }

    private static void inside(Set<String> publicNames) {
        Class<?>[] all = CaptiveCar.class.getDeclaredClasses();
        claim(all.length + 1 <= 12, "some twelve classes at most");
        for (Class<?> c : all) {
            claim(Modifier.isStatic(c.getModifiers()) && !Modifier.isPublic(c.getModifiers()), c + " is static, not public");
            claim(c.getDeclaredFields().length <= 20, c + " has some twenty fields at most");
            for (Method m : c.getDeclaredMethods()) {
                claim(!publicNames.contains(m.getName()), m + " has a name of its own");
                claim(m.getParameterCount() <= 7, m + " takes seven at most");
            }
        }
    }

    private static final int[] ODD = {Integer.MIN_VALUE, -1000000001, -1, 0, 1, 2, 3, 7, 8, 9, 12, 60, 61, 99, 100, 240, 255, 256, 499, 500, 501, 900, 901,
        999, 1000, 5000, 99999, 999999, 1000000, Integer.MAX_VALUE};

    private static void noCallThrows() throws ReflectiveOperationException {
        Random random = new Random(7);
        String[] texts = {"", "x10 1;", "x900 8;l1 60;g0 1;g5 2;g99 3;g7 4;p99;", "x40 3;l3 2;l30 9;g1 1;g2 2;", "x9", "g"};
        Method[] methods = CaptiveCar.class.getDeclaredMethods();
        for (int run = 0; run < 3000; run++) {
            CaptiveCar x = new CaptiveCar();
            for (int call = 0; call < 60; call++) {
                if (call % 40 == 0) {
                    texts[random.nextInt(texts.length)].chars().forEach(x::feed);
                    x.fair();
                }
                Method m = methods[random.nextInt(methods.length)];
                if (Modifier.isPublic(m.getModifiers())) {
                    m.invoke(x, arguments(m, random));
                }
            }
        }
    }

    private static Object[] arguments(Method m, Random random) {
        Object[] all = new Object[m.getParameterCount()];
        for (int i = 0; i < all.length; i++) {
            all[i] = m.getParameterTypes()[i] == boolean.class ? (Object) random.nextBoolean()
                : (Object) (random.nextInt(3) == 0 ? random.nextInt(9) : ODD[random.nextInt(ODD.length)]);
        }
        return all;
    }

    public static void main(String[] args) throws IOException, ReflectiveOperationException {
        Path path = Path.of("../shared/DOC.md");
        document = Files.exists(path) ? Files.readString(path) : "";
        face();
        noCallThrows();
        System.out.println(wrong + " claims are not so");
        if (wrong != 0) {
            System.exit(1);
        }
    }
}
