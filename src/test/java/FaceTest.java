import java.io.IOException;
import java.lang.reflect.Constructor;
import java.lang.reflect.Field;
import java.lang.reflect.Method;
import java.lang.reflect.Modifier;
import java.nio.charset.StandardCharsets;
import java.nio.file.Files;
import java.nio.file.Path;
import java.util.Arrays;
import java.util.TreeSet;
import java.util.regex.Matcher;
import java.util.regex.Pattern;

/** The public face as the document has it, the constants, and what ../shared/LANGUAGE.md forbids outright. */
public final class FaceTest {
    private static final String[] FACE = {
        "int talk(int) IllegalArgumentException IllegalStateException",
        "int music(int,int) IndexOutOfBoundsException IllegalArgumentException IllegalStateException",
        "int slot(int) IllegalArgumentException IllegalStateException",
        "int item(int,int) IndexOutOfBoundsException IllegalArgumentException IllegalStateException",
        "int cut(int,int) IndexOutOfBoundsException IllegalStateException",
        "void withdraw(int) IndexOutOfBoundsException IllegalStateException",
        "int songOut(int) IndexOutOfBoundsException IllegalStateException",
        "int pass(int) IllegalArgumentException IllegalStateException",
        "int app(int) IndexOutOfBoundsException IllegalStateException",
        "int poll(int) IndexOutOfBoundsException",
        "int campaign(int,int,int,int,int,int,int) IllegalArgumentException IllegalStateException",
        "int ask(int,int) IndexOutOfBoundsException IllegalStateException",
        "int load(int,int,int) IndexOutOfBoundsException IllegalArgumentException IllegalStateException",
        "boolean bot(int,boolean) IndexOutOfBoundsException",
        "boolean tell(int,int) IndexOutOfBoundsException",
        "int hour()",
        "int ofItem(int,int) IndexOutOfBoundsException IllegalArgumentException",
        "int ofPart(int,int,int) IndexOutOfBoundsException IllegalArgumentException",
        "int told(int,int) IndexOutOfBoundsException",
        "int ofCampaign(int,int) IndexOutOfBoundsException IllegalArgumentException",
        "int ofDownload(int,int) IndexOutOfBoundsException IllegalArgumentException",
        "int ad(int,int) IndexOutOfBoundsException",
        "int loadedAnew(int) IndexOutOfBoundsException",
        "boolean counts(int,int) IndexOutOfBoundsException IllegalArgumentException",
        "int count(int,int) IndexOutOfBoundsException IllegalArgumentException",
        "boolean isOwed(int,int) IndexOutOfBoundsException",
    };

    /** Each with the rule that it breaks. */
    private static final String[][] FORBIDDEN = {
        {"->", "2"}, {"::", "2"}, {"\\blong\\b|\\bfloat\\b|\\bdouble\\b", "3, not needed here"},
        {"^import (?!java\\.util\\.ArrayList;)", "4"}, {"\\bpackage\\b", "1"}, {"\\bString\\b", "4, not needed here"},
        {"\\bSystem\\b|\\bThread\\b|\\bRandom\\b", "13"}, {"\\btry\\b|\\bcatch\\b|\\bfinally\\b", "6"},
        {"\\bsynchronized\\b|\\bassert\\b|\\binstanceof\\b", "6"}, {"^\\s*static\\s*\\{", "5"},
        {"\\bwhile\\b", "9, a for shows its end"}, {"\\[", "7, there are no arrays whose index could be wrong"},
        {"\\bequals\\b|\\bhashCode\\b|\\btoString\\b", "6"}, {"Exact\\b", "4"}, {"\\bprotected\\b", "1"},
        {"[^\\x00-\\x7f]", "4"},
    };

    public static void main(String[] args) throws IOException {
        theClass();
        theMethods();
        theConstants();
        noOtherMembers();
        theSource();
        Suite.end("FaceTest");
    }

    private static void theClass() {
        int modifiers = FeedTower.class.getModifiers();
        Suite.is("public and final", true, Modifier.isPublic(modifiers) && Modifier.isFinal(modifiers));
        Suite.is("no package", "", FeedTower.class.getPackageName());
        Constructor<?>[] constructors = FeedTower.class.getDeclaredConstructors();
        Suite.is("constructors", 1, constructors.length);
        Suite.is("a public one", true, Modifier.isPublic(constructors[0].getModifiers()));
        Suite.is("without parameters", 0, constructors[0].getParameterCount());
    }

    private static void theMethods() {
        TreeSet<String> due = new TreeSet<>(Arrays.asList(FACE));
        TreeSet<String> got = new TreeSet<>();
        for (Method method : FeedTower.class.getDeclaredMethods()) {
            if (Modifier.isPublic(method.getModifiers())) {
                got.add(signature(method));
            }
        }
        Suite.is("the public methods", String.join("\n", due), String.join("\n", got));
    }

    private static String signature(Method method) {
        StringBuilder text = new StringBuilder(method.getReturnType().getName());
        text.append(' ').append(method.getName()).append('(');
        for (int i = 0; i < method.getParameterCount(); i++) {
            text.append(i == 0 ? "" : ",").append(method.getParameterTypes()[i].getName());
        }
        text.append(')');
        for (Class<?> thrown : method.getExceptionTypes()) {
            text.append(' ').append(thrown.getSimpleName());
        }
        return text.toString();
    }

    private static void theConstants() {
        Suite.is("NONE", -1, FeedTower.NONE);
        Suite.is("TALK", 0, FeedTower.TALK);
        Suite.is("MUSIC", 1, FeedTower.MUSIC);
        Suite.is("SLOT", 2, FeedTower.SLOT);
        Suite.is("LOOSE", 0, FeedTower.LOOSE);
        Suite.is("STRICT", 1, FeedTower.STRICT);
    }

    private static void noOtherMembers() {
        TreeSet<String> names = new TreeSet<>();
        TreeSet<String> faceNames = new TreeSet<>();
        for (Field field : FeedTower.class.getDeclaredFields()) {
            int modifiers = field.getModifiers();
            if (!Modifier.isPrivate(modifiers)) {
                names.add(field.getName());
            }
            Suite.is("static, then final: " + field.getName(), true, !Modifier.isStatic(modifiers) || Modifier.isFinal(modifiers));
        }
        Suite.is("fields that are not private", "[LOOSE, MUSIC, NONE, SLOT, STRICT, TALK]", names.toString());
        for (String line : FACE) {
            faceNames.add(line.substring(line.indexOf(' ') + 1, line.indexOf('(')));
        }
        for (Method method : FeedTower.class.getDeclaredMethods()) {
            boolean isPrivate = Modifier.isPrivate(method.getModifiers());
            Suite.is(method.getName() + " is public, or private and of another name", !isPrivate,
                    faceNames.contains(method.getName()));
        }
        for (Class<?> inside : FeedTower.class.getDeclaredClasses()) {
            int modifiers = inside.getModifiers();
            Suite.is(inside.getName() + " is static, and not public", true,
                    Modifier.isStatic(modifiers) && !Modifier.isPublic(modifiers) && !Modifier.isProtected(modifiers));
        }
    }

    private static void theSource() throws IOException {
        Path file = Path.of("src/main/java/FeedTower.java");
        String source = Files.readString(file, StandardCharsets.ISO_8859_1);
        String code = source.replaceAll("(?s)/\\*.*?\\*/", "").replaceAll("//[^\n]*", "").replaceAll("\"[^\"\n]*\"", "\"\"");
        for (String[] forbidden : FORBIDDEN) {
            Matcher found = Pattern.compile(forbidden[0], Pattern.MULTILINE).matcher(code);
            Suite.tell(!found.find(), "the source holds " + forbidden[0] + ", rule " + forbidden[1]);
        }
        Matcher thrown = Pattern.compile("throw new (\\w+)\\(").matcher(code);
        while (thrown.find()) {
            boolean named = Arrays.asList("IndexOutOfBoundsException", "IllegalArgumentException", "IllegalStateException")
                    .contains(thrown.group(1));
            Suite.is("throws what the document names: " + thrown.group(1), true, named);
        }
    }
}
