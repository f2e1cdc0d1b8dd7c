import java.lang.reflect.Constructor;
import java.lang.reflect.Field;
import java.lang.reflect.Method;
import java.lang.reflect.Modifier;
import java.util.Arrays;
import java.util.Set;
import java.util.TreeSet;

/** The public face is the document's, and promise 1: a new object. */
public final class FaceTest {
    private static final String PAIR = " IndexOutOfBoundsException IllegalArgumentException";
    private static final String[] FACE = {
        "int ask(int,int)" + PAIR,
        "int grant(int,int)" + PAIR,
        "int refuse(int,int)" + PAIR,
        "int stop(int,int)" + PAIR,
        "int block(int,int,boolean)" + PAIR,
        "int turnOn(int,int,int,int)" + PAIR,
        "int turnOff(int,int) IndexOutOfBoundsException IllegalStateException",
        "int bestSeat(int) IndexOutOfBoundsException",
        "int seat(int,int,int)" + PAIR,
        "int deliver(int) IllegalArgumentException",
        "int lose(int) IndexOutOfBoundsException",
        "int underWay()",
        "int message(int,int)" + PAIR,
        "int count(int) IllegalArgumentException",
        "int entry(int,int)" + PAIR,
        "int version(int,int)" + PAIR,
        "int changedSince(int,int)" + PAIR,
        "int view(int,int,int)" + PAIR,
        "boolean areApart(int,int)" + PAIR,
        "boolean agree(int,int)" + PAIR,
        "int agreeing()",
        "int wrongViews(int) IndexOutOfBoundsException",
        "int untilRest()",
        "int agreeingAtRest()",
        "int mostNeeded()",
        "double visible()",
        "int append(int) IllegalArgumentException IllegalStateException",
        "int clearText()",
        "int carryOut()",
        "int undo() IllegalStateException",
        "long digest()",
    };

    public static void main(String[] args) {
        faceIsTheDocuments();
        nothingElseIsSeen();
        newObjectIsEmpty();
        objectsAreApart();
        Check.end("FaceTest");
    }

    private static void faceIsTheDocuments() {
        Set<String> due = new TreeSet<>(Arrays.asList(FACE));
        Set<String> got = new TreeSet<>();
        for (Method method : PresenceGrants.class.getDeclaredMethods()) {
            if (Modifier.isPublic(method.getModifiers())) {
                got.add(told(method));
            }
        }
        if (!got.equals(due)) {
            System.out.println("public methods are " + got);
        }
        Check.same("the public methods are the document's", got.equals(due), true);
        Check.same("number of methods", got.size(), 31);
        Check.same("NONE", PresenceGrants.NONE, -1);
        Check.same("the class is final", Modifier.isFinal(PresenceGrants.class.getModifiers()), true);
    }

    private static String told(Method method) {
        StringBuilder line = new StringBuilder(method.getReturnType().getName() + " " + method.getName() + "(");
        for (int i = 0; i < method.getParameterCount(); i++) {
            line.append(i == 0 ? "" : ",").append(method.getParameterTypes()[i].getName());
        }
        line.append(")");
        for (Class<?> thrown : method.getExceptionTypes()) {
            line.append(" ").append(thrown.getSimpleName());
        }
        return line.toString();
    }

    private static void nothingElseIsSeen() {
        Set<String> publicNames = new TreeSet<>();
        for (Method method : PresenceGrants.class.getDeclaredMethods()) {
            if (Modifier.isPublic(method.getModifiers())) {
                publicNames.add(method.getName());
            }
        }
        for (Method method : PresenceGrants.class.getDeclaredMethods()) {
            if (!Modifier.isPublic(method.getModifiers())) {
                Check.same(method + " is private", Modifier.isPrivate(method.getModifiers()), true);
                Check.same(method + " bears a public name", publicNames.contains(method.getName()), false);
            }
        }
        for (Field field : PresenceGrants.class.getDeclaredFields()) {
            boolean isNone = field.getName().equals("NONE");
            Check.same(field + " is private", Modifier.isPrivate(field.getModifiers()), !isNone);
            Check.same(field + " is public", Modifier.isPublic(field.getModifiers()), isNone);
        }
        Constructor<?>[] constructors = PresenceGrants.class.getDeclaredConstructors();
        Check.same("constructors", constructors.length, 1);
        Check.same("the constructor is public", Modifier.isPublic(constructors[0].getModifiers()), true);
        for (Class<?> inside : PresenceGrants.class.getDeclaredClasses()) {
            Check.same(inside + " is static", Modifier.isStatic(inside.getModifiers()), true);
            Check.same(inside + " is public", Modifier.isPublic(inside.getModifiers()), false);
        }
    }

    private static void newObjectIsEmpty() {
        PresenceGrants x = new PresenceGrants();
        for (int user = 0; user < 6; user++) {
            Check.same("bestSeat", x.bestSeat(user), -1);
            Check.same("version", x.version(user, -1), 0);
            Check.same("changedSince", x.changedSince(user, 0), 0);
            Check.same("wrongViews", x.wrongViews(user), 0);
            for (int seat = 0; seat < 3; seat++) {
                for (int what = 0; what < 3; what++) {
                    Check.same("seat", x.seat(user, seat, what), 0);
                }
            }
            for (int other = 0; other < 6; other++) {
                if (other != user) {
                    newPairIsEmpty(x, user, other);
                }
            }
        }
        Check.same("underWay", x.underWay(), 0);
        for (int what = 0; what < 3; what++) {
            Check.same("count", x.count(what), 0);
        }
        Check.same("agreeing", x.agreeing(), 15);
        Check.same("untilRest", x.untilRest(), 0);
        Check.same("agreeingAtRest", x.agreeingAtRest(), 15);
        Check.same("mostNeeded", x.mostNeeded(), -1);
        Check.same("visible", x.visible(), 0.0);
        Check.fails("undo", x, Check.STATE, () -> x.undo());
        Check.same("clearText", x.clearText(), 0);
    }

    private static void newPairIsEmpty(PresenceGrants x, int user, int other) {
        Check.same("entry", x.entry(user, other), 0);
        Check.same("version of entry", x.version(user, other), 0);
        Check.same("areApart", x.areApart(user, other), false);
        Check.same("agree", x.agree(user, other), true);
        Check.views("new", x, user, other, -1, -1, -1);
    }

    private static void objectsAreApart() {
        PresenceGrants one = new PresenceGrants();
        PresenceGrants two = new PresenceGrants();
        long before = two.digest();
        one.ask(0, 1);
        one.turnOn(0, 0, 1, 1);
        one.append(97);
        Check.same("digest of the other object", two.digest(), before);
    }
}
