import java.io.IOException;
import java.lang.reflect.Modifier;
import java.nio.file.Files;
import java.nio.file.Path;
import java.util.regex.Matcher;
import java.util.regex.Pattern;

/** Looks for what ../shared/LANGUAGE.md rules out, as far as the text of the class shows it. */
public final class LanguageTest {
    private static final String[] BANNED = {
        "\\b(throw|throws|try|catch|finally|synchronized|assert|import|package|native|volatile|transient)\\b",
        "->", "::", "\\b(protected|var|yield|sealed|permits)\\b", "\\bExact\\b", "\\bSystem\\.(?!arraycopy)",
        "\\b(equals|hashCode|toString)\\b", "[^\\x00-\\x7f]", "\\bstatic\\s*\\{"};
    private static int wrong = 0;

    public static void main(String[] args) throws IOException {
        String source = Files.readString(Path.of("src/main/java/TwoFit.java"));
        String code = source.replaceAll("(?s)/\\*.*?\\*/", "").replaceAll("//[^\n]*", "");
        for (String banned : BANNED) {
            Matcher found = Pattern.compile(banned).matcher(code);
            while (found.find()) {
                tell("it has " + found.group());
            }
        }
        face();
        longMethods(code.split("\n"));
        System.out.println(wrong == 0 ? "the language is kept to" : wrong + " things that the language has not");
        if (wrong != 0) {
            System.exit(1);
        }
    }

    private static void tell(String what) {
        wrong++;
        System.out.println(what);
    }

    /** 31 methods, the constructor and NONE are public; all else is private, by other names. */
    private static void face() {
        int methods = 0;
        for (var method : TwoFit.class.getDeclaredMethods()) {
            methods += Modifier.isPublic(method.getModifiers()) ? 1 : 0;
            if (method.getParameterCount() > 7) {
                tell("more than seven parameters: " + method);
            }
            if (!Modifier.isPublic(method.getModifiers()) && !Modifier.isPrivate(method.getModifiers())) {
                tell("not private: " + method);
            }
            for (var other : TwoFit.class.getDeclaredMethods()) {
                if (Modifier.isPrivate(method.getModifiers()) && Modifier.isPublic(other.getModifiers())
                    && method.getName().equals(other.getName())) {
                    tell("a public one's name: " + method);
                }
            }
        }
        if (methods != 31) {
            tell(methods + " public methods");
        }
        for (var field : TwoFit.class.getDeclaredFields()) {
            if (!Modifier.isPrivate(field.getModifiers()) && !field.getName().equals("NONE")) {
                tell("not private: " + field);
            }
        }
        if (TwoFit.class.getDeclaredClasses().length > 11) {
            tell("more than twelve classes");
        }
        for (var inside : TwoFit.class.getDeclaredClasses()) {
            for (var method : inside.getDeclaredMethods()) {
                if (method.getParameterCount() > 7) {
                    tell("more than seven parameters: " + method);
                }
            }
            if (!Modifier.isStatic(inside.getModifiers()) || !Modifier.isPrivate(inside.getModifiers())) {
                tell("not private and static: " + inside);
            }
        }
    }

    private static void longMethods(String[] lines) {
        int begun = 0;
        for (int n = 0; n < lines.length; n++) {
            if (lines[n].matches("( {4}| {8})\\S.*\\) \\{") && !lines[n].matches("\\s*(if|for|while|switch|\\}).*")) {
                begun = n;
            }
            if (lines[n].matches(" {4}\\}| {8}\\}") && n - begun > 60) {
                tell("over sixty lines: " + lines[begun].strip());
                begun = n;
            }
        }
    }
}
