import java.lang.reflect.Constructor;
import java.lang.reflect.Field;
import java.lang.reflect.Method;
import java.lang.reflect.Modifier;
import java.util.Set;
import java.util.TreeSet;

/** The public face: what the document writes there and nothing else. */
public final class FaceTest {
    private static final Due DUE = new Due("FaceTest");
    private static final String ILLEGAL = "java.lang.IllegalArgumentException";
    private static final String INDEX = "java.lang.IndexOutOfBoundsException";
    private static final String STATE = "java.lang.IllegalStateException";
    private static final String NONE = "java.util.NoSuchElementException";
    private static final String[] FACE = {
        "int letters(long) " + ILLEGAL + " " + INDEX,
        "int drop()",
        "int set(int) " + ILLEGAL + " " + INDEX,
        "int insert() " + INDEX,
        "int replace(int) " + NONE,
        "int delete(int) " + NONE,
        "void begin() " + STATE,
        "int commit() " + STATE,
        "int rollback() " + STATE,
        "int flush()",
        "int optimize()",
        "void ways(int,int) " + ILLEGAL,
        "int weight(int,int) " + ILLEGAL,
        "int ask() " + ILLEGAL,
        "int wrong()",
        "int answer(int,boolean) " + INDEX,
        "double score(int,boolean) " + INDEX,
        "int look(int,int) " + NONE + " " + ILLEGAL,
        "int segment(int,int) " + INDEX + " " + ILLEGAL,
        "int count(int) " + ILLEGAL,
    };

    public static void main(String[] args) {
        face();
        restIsPrivate();
        calls();
        objectsAreApart();
        DUE.end();
    }

    private static void face() {
        int modifiers = PhraseShelf.class.getModifiers();
        DUE.same("public", Modifier.isPublic(modifiers) ? 1 : 0, 1);
        DUE.same("final", Modifier.isFinal(modifiers) ? 1 : 0, 1);
        DUE.same("constructors", PhraseShelf.class.getDeclaredConstructors().length, 1);
        for (Constructor<?> c : PhraseShelf.class.getDeclaredConstructors()) {
            DUE.same("its parameters", c.getParameterCount(), 0);
            DUE.same("public", Modifier.isPublic(c.getModifiers()) ? 1 : 0, 1);
        }
        Set<String> got = new TreeSet<>();
        for (Method m : PhraseShelf.class.getDeclaredMethods()) {
            if (Modifier.isPublic(m.getModifiers())) {
                got.add(signature(m));
            }
        }
        DUE.sameText("the public methods", got.toString(), new TreeSet<>(Set.of(FACE)).toString());
    }

    private static String signature(Method m) {
        StringBuilder text = new StringBuilder(m.getReturnType().getName());
        text.append(' ').append(m.getName()).append('(');
        String gap = "";
        for (Class<?> type : m.getParameterTypes()) {
            text.append(gap).append(type.getName());
            gap = ",";
        }
        text.append(')');
        for (Class<?> thrown : m.getExceptionTypes()) {
            text.append(' ').append(thrown.getName());
        }
        return text.toString();
    }

    private static void restIsPrivate() {
        Set<String> publicNames = new TreeSet<>();
        for (Method m : PhraseShelf.class.getDeclaredMethods()) {
            if (Modifier.isPublic(m.getModifiers())) {
                publicNames.add(m.getName());
            }
        }
        for (Method m : PhraseShelf.class.getDeclaredMethods()) {
            if (!Modifier.isPublic(m.getModifiers())) {
                DUE.same("private " + m.getName(), Modifier.isPrivate(m.getModifiers()) ? 1 : 0, 1);
                DUE.same("its name is its own", publicNames.contains(m.getName()) ? 1 : 0, 0);
            }
        }
        for (Field f : PhraseShelf.class.getDeclaredFields()) {
            DUE.same("private " + f.getName(), Modifier.isPrivate(f.getModifiers()) ? 1 : 0, 1);
        }
        for (Class<?> inner : PhraseShelf.class.getDeclaredClasses()) {
            DUE.same("static " + inner, Modifier.isStatic(inner.getModifiers()) ? 1 : 0, 1);
            DUE.same("not public " + inner, Modifier.isPublic(inner.getModifiers()) ? 1 : 0, 0);
            DUE.same("not protected " + inner, Modifier.isProtected(inner.getModifiers()) ? 1 : 0, 0);
        }
    }

    /** Beyond the 512 calls what is answered is free, but no call may fail by itself. */
    private static void calls() {
        PhraseShelf x = new PhraseShelf();
        x.ways(1, 0);
        Due.texts(x, "a b", "c");
        for (int i = 0; i < 24; i++) {
            x.insert();
        }
        for (int i = 0; i < 40000; i++) {
            x.replace(1 + i % 24);
        }
        DUE.same("many segments", x.count(1) >= 512 ? 1 : 0, 1);
        x.begin();
        x.rollback();
        DUE.same("find all", Due.ask(x, "a"), 24);
        DUE.same("no more are kept", x.optimize(), 512);
    }

    private static void objectsAreApart() {
        PhraseShelf x = new PhraseShelf();
        PhraseShelf y = new PhraseShelf();
        Due.insert(x, "a", "");
        x.weight(0, 4);
        x.begin();
        DUE.same("rows of the other", y.count(0), 0);
        DUE.same("weight of the other", y.weight(0, 2), 1);
        DUE.same("transaction of the other", y.count(7), 0);
    }
}
