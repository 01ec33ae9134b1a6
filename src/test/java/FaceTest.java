import java.lang.reflect.Constructor;
import java.lang.reflect.Field;
import java.lang.reflect.Method;
import java.lang.reflect.Modifier;
import java.nio.file.Files;
import java.nio.file.Path;
import java.util.Arrays;
import java.util.Set;
import java.util.TreeSet;
import java.util.regex.Matcher;
import java.util.regex.Pattern;

/** The public face is the document's (argument 0: the path of DOC.md), and nothing more. */
public final class FaceTest {
  public static void main(String[] arguments) throws Exception {
    Check.part("the face");
    Check.due("modifiers", Ownshelf.class.getModifiers(), Modifier.PUBLIC | Modifier.FINAL);
    Check.due("methods", faceOfClass(), faceOfDocument(Path.of(arguments[0])));
    Check.due("constructors", Ownshelf.class.getDeclaredConstructors().length, 1);
    for (Constructor<?> made : Ownshelf.class.getDeclaredConstructors()) {
      Check.due("constructor", made.toString(), "public Ownshelf()");
    }
    for (Field field : Ownshelf.class.getDeclaredFields()) {
      Check.due(field + " is private", Modifier.isPrivate(field.getModifiers()), true);
    }
    for (Class<?> inside : Ownshelf.class.getDeclaredClasses()) {
      int modifiers = inside.getModifiers();
      Check.due(inside + " is static", Modifier.isStatic(modifiers), true);
      Check.due(inside + " is seen", Modifier.isPublic(modifiers), false);
    }
    Check.end("FaceTest");
  }

  private static Set<String> faceOfClass() {
    Set<String> face = new TreeSet<>();
    for (Method method : Ownshelf.class.getDeclaredMethods()) {
      if (!Modifier.isPrivate(method.getModifiers()) && !method.isSynthetic()) {
        String parameters = names(method.getParameterTypes());
        String thrown = names(method.getExceptionTypes());
        face.add(
            Modifier.toString(method.getModifiers())
                + (" " + method.getReturnType().getSimpleName())
                + (" " + method.getName() + "(" + parameters + ")")
                + (thrown.isEmpty() ? "" : " throws " + thrown));
      }
    }
    return face;
  }

  private static String names(Class<?>[] types) {
    return String.join(", ", Arrays.stream(types).map(Class::getSimpleName).toList());
  }

  private static Set<String> faceOfDocument(Path document) throws Exception {
    String text = Files.readString(document);
    int start = text.indexOf("public final class");
    String face = text.substring(start, text.indexOf("```", start));
    Set<String> methods = new TreeSet<>();
    Matcher matcher = Pattern.compile("(?m)^ +(public \\w+ \\w+)\\((.*?)\\)(.*);$").matcher(face);
    while (matcher.find()) {
      String parameters = matcher.group(2).replaceAll("(\\w+) \\w+", "$1");
      methods.add(matcher.group(1) + "(" + parameters + ")" + matcher.group(3));
    }
    return methods;
  }
}
