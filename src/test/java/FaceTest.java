import java.lang.reflect.Constructor;
import java.lang.reflect.Field;
import java.lang.reflect.Method;
import java.lang.reflect.Modifier;
import java.util.Set;
import java.util.TreeSet;

/** The public face: what the document names is there, and nothing else can be seen from outside. */
final class FaceTest {
    private static final String NONE = "java.util.NoSuchElementException";
    private static final String BOTH = NONE + ",java.lang.IllegalArgumentException";
    private static final String[] FACE = {
        "public int NoiseRing.begin(int) throws java.lang.IllegalArgumentException",
        "public int NoiseRing.set(int,int,int) throws " + NONE,
        "public int NoiseRing.get(int,int) throws " + NONE,
        "public int NoiseRing.join(int,int,int,int) throws " + BOTH,
        "public int NoiseRing.round(int,int,int,int) throws " + BOTH,
        "public int NoiseRing.part(int,int,int,boolean) throws " + BOTH,
        "public int NoiseRing.hint(int,int,int,int) throws " + BOTH,
        "public int NoiseRing.use(int,int,int,int) throws " + BOTH,
        "public int NoiseRing.size(int) throws " + NONE,
        "public int NoiseRing.far(int,int) throws " + NONE,
        "public int NoiseRing.noise(int,int,long,long) throws " + BOTH,
        "public int NoiseRing.value(int,int) throws " + NONE,
        "public boolean NoiseRing.unit(int) throws " + NONE,
        "public int NoiseRing.count(int)",
    };

    public static void main(String[] args) {
        Class<?> face = NoiseRing.class;
        Check.same("the class is public and final", face.getModifiers(), Modifier.PUBLIC | Modifier.FINAL);
        Set<String> seen = new TreeSet<>();
        Set<String> names = new TreeSet<>();
        for (Method method : face.getDeclaredMethods()) {
            if (!Modifier.isPrivate(method.getModifiers())) {
                seen.add(method.toString());
                names.add(method.getName());
            }
        }
        for (String due : FACE) {
            Check.yes(due, seen.remove(due));
        }
        Check.yes("no other method is seen: " + seen, seen.isEmpty());
        for (Method method : face.getDeclaredMethods()) {
            boolean hidden = Modifier.isPrivate(method.getModifiers());
            Check.no("a private " + method.getName(), hidden && names.contains(method.getName()));
        }
        for (Field field : face.getDeclaredFields()) {
            Check.yes(field + " is private", Modifier.isPrivate(field.getModifiers()));
            boolean fixed = Modifier.isFinal(field.getModifiers()) || !Modifier.isStatic(field.getModifiers());
            Check.yes(field + " is final if static", fixed);
        }
        Constructor<?>[] makers = face.getDeclaredConstructors();
        Check.same("constructors", makers.length, 1);
        Check.yes(makers[0].toString(), makers[0].toString().equals("public NoiseRing()"));
        Check.end("FaceTest");
    }
}
