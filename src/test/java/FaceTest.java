import java.lang.reflect.Constructor;
import java.lang.reflect.Field;
import java.lang.reflect.Method;
import java.lang.reflect.Modifier;
import java.util.Arrays;
import java.util.TreeSet;

/** The public face and the constants as the document has them, and no other members: rule 1 of ../shared/LANGUAGE.md. */
public final class FaceTest {
    private static final String[] FACE = {
        "int talk(int) IllegalArgumentException IllegalStateException",
        "int music(int,int) IndexOutOfBoundsException IllegalArgumentException IllegalStateException",
        "int slot(int) IllegalArgumentException IllegalStateException",
        "int item(int,int) IndexOutOfBoundsException IllegalArgumentException IllegalStateException",
        "int cut(int,int) IndexOutOfBoundsException IllegalStateException",
        "void withdraw(int) IndexOutOfBoundsException IllegalStateException",
        "int songOut(int) IndexOutOfBoundsException IllegalStateException",
        "int pass(int) IllegalArgumentException IllegalStateException",
        "int app(int) IndexOutOfBoundsException IllegalStateException",
        "int poll(int) IndexOutOfBoundsException",
        "int campaign(int,int,int,int,int,int,int) IllegalArgumentException IllegalStateException",
        "int ask(int,int) IndexOutOfBoundsException IllegalStateException",
        "int load(int,int,int) IndexOutOfBoundsException IllegalArgumentException IllegalStateException",
        "boolean bot(int,boolean) IndexOutOfBoundsException",
        "boolean tell(int,int) IndexOutOfBoundsException",
        "int hour()",
        "int ofItem(int,int) IndexOutOfBoundsException IllegalArgumentException",
        "int ofPart(int,int,int) IndexOutOfBoundsException IllegalArgumentException",
        "int told(int,int) IndexOutOfBoundsException",
        "int ofCampaign(int,int) IndexOutOfBoundsException IllegalArgumentException",
        "int ofDownload(int,int) IndexOutOfBoundsException IllegalArgumentException",
        "int ad(int,int) IndexOutOfBoundsException",
        "int loadedAnew(int) IndexOutOfBoundsException",
        "boolean counts(int,int) IndexOutOfBoundsException IllegalArgumentException",
        "int count(int,int) IndexOutOfBoundsException IllegalArgumentException",
        "boolean isOwed(int,int) IndexOutOfBoundsException",
    };

    public static void main(String[] args) {
        theClass();
        theMethods();
        theConstants();
        noOtherMembers();
        Suite.end("FaceTest");
    }

    private static void theClass() {
        int modifiers = FeedTower.class.getModifiers();
        Suite.is("public and final", true, Modifier.isPublic(modifiers) && Modifier.isFinal(modifiers));
        Suite.is("no package", "", FeedTower.class.getPackageName());
        Constructor<?>[] constructors = FeedTower.class.getDeclaredConstructors();
        Suite.is("constructors", 1, constructors.length);
        Suite.is("a public one", true, Modifier.isPublic(constructors[0].getModifiers()));
        Suite.is("without parameters", 0, constructors[0].getParameterCount());
    }

    private static void theMethods() {
        TreeSet<String> due = new TreeSet<>(Arrays.asList(FACE));
        TreeSet<String> got = new TreeSet<>();
        for (Method method : FeedTower.class.getDeclaredMethods()) {
            if (Modifier.isPublic(method.getModifiers())) {
                got.add(signature(method));
            }
        }
        Suite.is("the public methods", String.join("\n", due), String.join("\n", got));
    }

    private static String signature(Method method) {
        StringBuilder text = new StringBuilder(method.getReturnType().getName());
        text.append(' ').append(method.getName()).append('(');
        for (int i = 0; i < method.getParameterCount(); i++) {
            text.append(i == 0 ? "" : ",").append(method.getParameterTypes()[i].getName());
        }
        text.append(')');
        for (Class<?> thrown : method.getExceptionTypes()) {
            text.append(' ').append(thrown.getSimpleName());
        }
        return text.toString();
    }

    private static void theConstants() {
        Suite.is("NONE", -1, FeedTower.NONE);
        Suite.is("TALK", 0, FeedTower.TALK);
        Suite.is("MUSIC", 1, FeedTower.MUSIC);
        Suite.is("SLOT", 2, FeedTower.SLOT);
        Suite.is("LOOSE", 0, FeedTower.LOOSE);
        Suite.is("STRICT", 1, FeedTower.STRICT);
    }

    private static void noOtherMembers() {
        TreeSet<String> names = new TreeSet<>();
        TreeSet<String> faceNames = new TreeSet<>();
        for (Field field : FeedTower.class.getDeclaredFields()) {
            if (!Modifier.isPrivate(field.getModifiers())) {
                names.add(field.getName());
            }
        }
        Suite.is("fields that are not private", "[LOOSE, MUSIC, NONE, SLOT, STRICT, TALK]", names.toString());
        for (String line : FACE) {
            faceNames.add(line.substring(line.indexOf(' ') + 1, line.indexOf('(')));
        }
        for (Method method : FeedTower.class.getDeclaredMethods()) {
            boolean isPrivate = Modifier.isPrivate(method.getModifiers());
            Suite.is(method.getName() + " is public, or private and of another name", !isPrivate,
                    faceNames.contains(method.getName()));
        }
        for (Class<?> inside : FeedTower.class.getDeclaredClasses()) {
            int modifiers = inside.getModifiers();
            Suite.is(inside.getName() + " is private or package-visible", true,
                    !Modifier.isPublic(modifiers) && !Modifier.isProtected(modifiers));
        }
    }
}
