import java.io.IOException;
import java.lang.reflect.Constructor;
import java.lang.reflect.Field;
import java.lang.reflect.Method;
import java.lang.reflect.Modifier;
import java.nio.file.Files;
import java.nio.file.Path;
import java.util.ArrayList;
import java.util.List;
import java.util.TreeSet;
import java.util.regex.Matcher;
import java.util.regex.Pattern;

/** The public face: nothing is missing and nothing is too many. */
final class FaceTests {
  private static final String[] METHODS = {
      "int append(int,int,int,int,int)", "int truncate(int)", "int load()", "int errorCode()",
      "int errorPosition()", "int stepCount()", "int cooks()", "int minute()", "int salt()",
      "int taste()", "int countWithStatus(int)", "int starts()", "int completions()",
      "int burns()", "int cookMinutes()", "int panCapacity(int)", "int pansInUse(int)",
      "int duration(int)", "int stepTaste(int)", "int panType(int)", "boolean isHot(int)",
      "boolean isUnattended(int)", "int predecessor(int,int)", "int successorCount(int)",
      "boolean dependsOn(int,int)", "int pathLength(int)", "int nameLetter(int,int)",
      "int findStep()", "int status(int)", "int remaining(int)", "int age(int)",
      "int startsOf(int)", "boolean isTakenUp(int)", "int readyStep(int)",
      "int whyNotRunning(int)", "int blockingStep(int)", "int rootBlocker(int)",
      "int whyNotServed()", "int criticalStep(int)", "int slack(int)", "int minutesToFinish()",
      "int statusAfter(int,int)", "int minutesToBurn(int)", "int minutesWithCooks(int)",
      "int fewestCooks()", "int bottleneck()", "int saltNeeded()", "float doneShare()",
      "double meanDuration()", "int inconsistencies()", "int pass(int)", "int addSalt(int)",
      "int stop(int)", "int redo(int)", "int setCooks(int)", "int setDuration(int,int)",
      "int serve()", "int runScript()", "int undo()", "int save(int)", "int restore(int)",
      "int writeSummary()", "int outputByte(int)"};

  private FaceTests() {}

  static void termsTheMethods() {
    TreeSet<String> due = new TreeSet<>();
    for (String method : METHODS) {
      due.add(method);
    }
    Kit.due("methods of the face", due.size(), 63);
    TreeSet<String> got = new TreeSet<>();
    TreeSet<String> names = new TreeSet<>();
    for (Method method : RecipeScheduler.class.getDeclaredMethods()) {
      if (!Modifier.isPrivate(method.getModifiers()) && !method.isSynthetic()) {
        StringBuilder text = new StringBuilder(method.getReturnType() + " " + method.getName());
        for (Class<?> type : method.getParameterTypes()) {
          text.append(text.indexOf("(") < 0 ? "(" : ",").append(type);
        }
        got.add(text.append(text.indexOf("(") < 0 ? "()" : ")").toString());
        names.add(method.getName());
        Kit.due(method + " is public", Modifier.isPublic(method.getModifiers()), true);
      }
    }
    Kit.due("the methods", got.toString(), due.toString());
    for (Class<?> inside : RecipeScheduler.class.getDeclaredClasses()) {
      for (Method method : inside.getDeclaredMethods()) {
        Kit.due(method + " bears a name of the face", names.contains(method.getName()), false);
      }
    }
    for (Method method : RecipeScheduler.class.getDeclaredMethods()) {
      if (Modifier.isPrivate(method.getModifiers())) {
        Kit.due(method + " bears a name of the face", names.contains(method.getName()), false);
      }
    }
  }

  /** The names of parameters aside, which no compiled class keeps. */
  static void termsTheMethodsDeclareTheExceptionsOfTheDocument() throws IOException {
    TreeSet<String> due = new TreeSet<>();
    Matcher face = Pattern.compile("^    public (\\w+ \\w+\\(.*);$", Pattern.MULTILINE)
        .matcher(Files.readString(Path.of(System.getProperty("document", "../shared/DOC.md"))));
    while (face.find()) {
      due.add(face.group(1).replaceAll("int \\w+([,)])", "int$1"));
    }
    TreeSet<String> got = new TreeSet<>();
    for (Method method : RecipeScheduler.class.getDeclaredMethods()) {
      if (Modifier.isPublic(method.getModifiers())) {
        got.add(method.getReturnType() + " " + method.getName() + "("
            + names(method.getParameterTypes()) + ")"
            + (method.getExceptionTypes().length == 0 ? "" : " throws ")
            + names(method.getExceptionTypes()));
      }
    }
    Kit.due("the face", String.join("\n", got), String.join("\n", due));
  }

  private static String names(Class<?>[] classes) {
    List<String> names = new ArrayList<>();
    for (Class<?> one : classes) {
      names.add(one.getSimpleName());
    }
    return String.join(", ", names);
  }

  static void termsTheClassAndItsConstructor() {
    int modifiers = RecipeScheduler.class.getModifiers();
    Kit.due("public", Modifier.isPublic(modifiers), true);
    Kit.due("final", Modifier.isFinal(modifiers), true);
    Constructor<?>[] constructors = RecipeScheduler.class.getDeclaredConstructors();
    Kit.due("constructors", constructors.length, 1);
    Kit.due("public", Modifier.isPublic(constructors[0].getModifiers()), true);
    Kit.due("parameters", constructors[0].getParameterCount(), 0);
    for (Class<?> inside : RecipeScheduler.class.getDeclaredClasses()) {
      Kit.due(inside + " is static", Modifier.isStatic(inside.getModifiers()), true);
      Kit.due(inside + " is public", Modifier.isPublic(inside.getModifiers()), false);
    }
  }

  static void termsTheConstants() throws IllegalAccessException {
    TreeSet<String> got = new TreeSet<>();
    for (Field field : RecipeScheduler.class.getDeclaredFields()) {
      if (!Modifier.isPrivate(field.getModifiers()) && !field.isSynthetic()) {
        got.add(Modifier.toString(field.getModifiers()) + " " + field.getType() + " "
            + field.getName() + " = " + field.get(null));
      }
    }
    Kit.due("the constants", got.toString(), "[public static final int BURNT = 3, "
        + "public static final int DONE = 2, public static final int NONE = -1, "
        + "public static final int RUNNING = 1, public static final int WAITING = 0]");
  }
}
