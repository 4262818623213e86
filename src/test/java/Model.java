import java.nio.charset.StandardCharsets;
import java.util.ArrayDeque;
import java.util.ArrayList;
import java.util.Collections;
import java.util.Comparator;
import java.util.List;
import java.util.NoSuchElementException;
import java.util.regex.Matcher;
import java.util.regex.Pattern;

/**
 * The document once more, written for plainness and with the whole Java library, so that
 * ModelTests can compare the program with it call by call. It shares no code with the program.
 */
public final class Model {
  private static final String DEFAULT = "recipe 1 2 4 9;pan pot 2;pan bowl 2;step cut 3 1 in bowl;"
      + "step boil 5 2 in pot alone after cut;step fry 2 3 in pot hot;"
      + "step mix 2 1 in bowl after boil fry;step rest 4 0 alone after mix;";

  private static final class TextError extends Exception {
    private static final long serialVersionUID = 1L;
    final int code;
    final int position;

    TextError(int code, int position) {
      this.code = code;
      this.position = position;
    }
  }

  private static final class Step {
    String name;
    int duration;
    int taste;
    int pan = -1;
    boolean hot;
    boolean alone;
    List<Integer> after = new ArrayList<>();
    int status;
    int remaining;
    int age;
    int starts;
    int completions;
    int burns;

    Step copy() {
      Step s = new Step();
      s.name = name;
      s.duration = duration;
      s.taste = taste;
      s.pan = pan;
      s.hot = hot;
      s.alone = alone;
      s.after = after;
      s.status = status;
      s.remaining = remaining;
      s.age = age;
      s.starts = starts;
      s.completions = completions;
      s.burns = burns;
      return s;
    }
  }

  private static final class World {
    int cooks;
    int hold;
    int lowest;
    int highest;
    List<String> panNames = new ArrayList<>();
    List<Integer> capacities = new ArrayList<>();
    List<Step> steps = new ArrayList<>();
    int minute;
    int salt;
    int cookMinutes;
    int stops;
    boolean served;

    World copy() {
      World w = new World();
      w.cooks = cooks;
      w.hold = hold;
      w.lowest = lowest;
      w.highest = highest;
      w.panNames = panNames;
      w.capacities = capacities;
      for (Step s : steps) {
        w.steps.add(s.copy());
      }
      w.minute = minute;
      w.salt = salt;
      w.cookMinutes = cookMinutes;
      w.stops = stops;
      w.served = served;
      return w;
    }

    List<Integer> successors(int step) {
      List<Integer> found = new ArrayList<>();
      for (int i = 0; i < steps.size(); i++) {
        if (steps.get(i).after.contains(step)) {
          found.add(i);
        }
      }
      return found;
    }

    int path(int step) {
      int longest = 0;
      for (int next : successors(step)) {
        longest = Math.max(longest, path(next));
      }
      return steps.get(step).duration + longest;
    }

    int head(int step) {
      int longest = 0;
      for (int before : steps.get(step).after) {
        longest = Math.max(longest, head(before) + steps.get(before).duration);
      }
      return longest;
    }

    boolean continued(int step) {
      for (int next : successors(step)) {
        if (steps.get(next).status == 1 || steps.get(next).status == 2) {
          return true;
        }
      }
      return false;
    }

    boolean predecessorsDone(int step) {
      for (int before : steps.get(step).after) {
        if (steps.get(before).status != 2) {
          return false;
        }
      }
      return true;
    }

    List<Integer> ready() {
      List<Integer> found = new ArrayList<>();
      for (int i = 0; i < steps.size(); i++) {
        if ((steps.get(i).status == 0 || steps.get(i).status == 3) && predecessorsDone(i)) {
          found.add(i);
        }
      }
      found.sort(Comparator.comparingInt((Integer i) -> -path(i)).thenComparingInt(i -> i));
      return found;
    }

    List<Integer> occupants(int pan) {
      List<Integer> found = new ArrayList<>();
      for (int i = 0; i < steps.size(); i++) {
        Step s = steps.get(i);
        boolean awaited = false;
        for (int next : successors(i)) {
          awaited |= steps.get(next).status == 0 || steps.get(next).status == 3;
        }
        if (s.pan == pan && (s.status == 1 || s.status == 2 && awaited)) {
          found.add(i);
        }
      }
      return found;
    }

    List<Integer> working() {
      List<Integer> found = new ArrayList<>();
      for (int i = 0; i < steps.size(); i++) {
        if (steps.get(i).status == 1 && !steps.get(i).alone) {
          found.add(i);
        }
      }
      return found;
    }

    boolean panFree(int step) {
      int pan = steps.get(step).pan;
      return pan < 0 || occupants(pan).size() < capacities.get(pan);
    }

    boolean cookFree(int step) {
      return steps.get(step).alone || working().size() < cooks;
    }

    int simulate() {
      List<Integer> completed = new ArrayList<>();
      if (!served) {
        cookMinutes += working().size();
        for (int i = 0; i < steps.size(); i++) {
          Step s = steps.get(i);
          if (s.status == 1 && --s.remaining == 0) {
            s.status = 2;
            s.completions++;
            completed.add(i);
          }
        }
        for (int i = 0; i < steps.size(); i++) {
          Step s = steps.get(i);
          if (s.hot && s.status == 2 && !completed.contains(i) && !continued(i)
              && ++s.age > hold) {
            s.status = 3;
            s.age = 0;
            s.burns++;
          }
        }
        for (int i : ready()) {
          Step s = steps.get(i);
          if (cookFree(i) && panFree(i)) {
            s.status = 1;
            s.remaining = s.duration;
            s.starts++;
          }
        }
      }
      minute++;
      return completed.size();
    }

    boolean allDone() {
      return count(2) == steps.size();
    }

    int count(int status) {
      int n = 0;
      for (Step s : steps) {
        n += s.status == status ? 1 : 0;
      }
      return n;
    }

    int taste() {
      int sum = salt;
      for (Step s : steps) {
        sum += s.status == 2 ? s.taste : 0;
      }
      return sum;
    }

    int finish() {
      World w = copy();
      int minutes = 0;
      while (!w.allDone()) {
        if (minutes == 500) {
          return -1;
        }
        w.simulate();
        minutes++;
      }
      return minutes;
    }

    int why(int step) {
      Step s = steps.get(step);
      return s.status == 1 ? 0 : s.status == 2 ? 1 : !predecessorsDone(step) ? 2
          : !panFree(step) ? 3 : !cookFree(step) ? 4 : 5;
    }

    int blocking(int step) {
      switch (why(step)) {
        case 2:
          for (int before : steps.get(step).after) {
            if (steps.get(before).status != 2) {
              return before;
            }
          }
          return -1;
        case 3:
          return Collections.min(occupants(steps.get(step).pan));
        case 4:
          return Collections.min(working());
        default:
          return -1;
      }
    }

    int whyNotServed() {
      return served ? 1 : count(3) > 0 ? 2 : !allDone() ? 3 : taste() < lowest ? 4
          : taste() > highest ? 5 : 0;
    }
  }

  private static final class Reader {
    final List<String> words = new ArrayList<>();
    final List<Integer> places = new ArrayList<>();
    int at;

    Reader(String text) {
      Matcher m = Pattern.compile("[a-z]+|[0-9]+|[ \n]+|.", Pattern.DOTALL).matcher(text);
      while (m.find()) {
        if (!m.group().matches("[ \n]+")) {
          words.add(m.group());
          places.add(m.start());
        }
      }
      words.add("");
      places.add(text.length());
    }

    String word() {
      return words.get(at);
    }

    boolean atEnd() {
      return at == words.size() - 1;
    }

    TextError error(int code) {
      return new TextError(code, places.get(at));
    }

    void take(String word) throws TextError {
      if (!word().equals(word)) {
        throw error(1);
      }
      at++;
    }

    boolean option(String word) {
      if (word().equals(word)) {
        at++;
        return true;
      }
      return false;
    }

    int number(int low, int high) throws TextError {
      if (!word().matches("[0-9]{1,3}")) {
        throw error(1);
      }
      int value = Integer.parseInt(word());
      if (value < low || value > high) {
        throw error(2);
      }
      at++;
      return value;
    }

    /** Gives the name at this place without passing it. */
    String name() throws TextError {
      if (!word().matches("[a-z]{1,8}")) {
        throw error(1);
      }
      if (word().length() > 6) {
        throw error(3);
      }
      return word();
    }
  }

  private final byte[] buffer = new byte[700];
  private int length;
  private int errorCode;
  private int errorPosition = -1;
  private World w;
  private final ArrayDeque<World> history = new ArrayDeque<>();
  private final World[] saved = new World[2];
  private String output = "";

  public Model() {
    try {
      w = setup(DEFAULT);
    } catch (TextError e) {
      throw new AssertionError(e);
    }
  }

  private static World setup(String text) throws TextError {
    Reader r = new Reader(text);
    World w = new World();
    r.take("recipe");
    w.cooks = r.number(1, 4);
    w.hold = r.number(0, 30);
    w.lowest = r.number(0, 99);
    w.highest = r.number(w.lowest, 99);
    r.take(";");
    while (r.word().equals("pan")) {
      if (w.panNames.size() == 4) {
        throw r.error(5);
      }
      r.at++;
      if (w.panNames.contains(r.name())) {
        throw r.error(3);
      }
      w.panNames.add(r.word());
      r.at++;
      w.capacities.add(r.number(1, 5));
      r.take(";");
    }
    do {
      if (r.word().equals("step") && w.steps.size() == 14) {
        throw r.error(5);
      }
      r.take("step");
      w.steps.add(step(r, w));
      r.take(";");
    } while (!r.atEnd());
    return w;
  }

  private static int find(World w, String name) {
    for (int i = 0; i < w.steps.size(); i++) {
      if (w.steps.get(i).name.equals(name)) {
        return i;
      }
    }
    return -1;
  }

  private static Step step(Reader r, World w) throws TextError {
    Step s = new Step();
    s.name = r.name();
    if (find(w, s.name) >= 0) {
      throw r.error(3);
    }
    r.at++;
    s.duration = r.number(1, 60);
    s.taste = r.number(0, 9);
    if (r.option("in")) {
      s.pan = w.panNames.indexOf(r.name());
      if (s.pan < 0) {
        throw r.error(3);
      }
      r.at++;
    }
    s.hot = r.option("hot");
    s.alone = r.option("alone");
    if (r.option("after")) {
      do {
        int before = find(w, r.name());
        if (before < 0) {
          throw r.error(3);
        }
        if (s.after.contains(before)) {
          throw r.error(4);
        }
        if (s.after.size() == 4) {
          throw r.error(5);
        }
        s.after.add(before);
        r.at++;
      } while (r.word().matches("[a-z]{1,8}"));
    }
    return s;
  }

  private List<Object[]> script(String text) throws TextError {
    Reader r = new Reader(text);
    List<Object[]> commands = new ArrayList<>();
    while (!r.atEnd()) {
      String word = r.word();
      if (!word.matches("pass|salt|water|stop|redo|cooks|time|serve")) {
        throw r.error(1);
      }
      if (commands.size() == 30) {
        throw r.error(5);
      }
      r.at++;
      Object[] command = {word, 0, 0};
      if (word.matches("stop|redo|time")) {
        int step = find(w, r.name());
        if (step < 0) {
          throw r.error(3);
        }
        command[1] = step;
        r.at++;
      }
      if (!word.matches("stop|redo|serve")) {
        command[2] = r.number(0, 999);
      }
      r.take(";");
      commands.add(command);
    }
    return commands;
  }

  private String takeText() {
    String text = new String(buffer, 0, length, StandardCharsets.ISO_8859_1);
    length = 0;
    errorCode = 0;
    errorPosition = -1;
    return text;
  }

  private IllegalArgumentException refuse(TextError e) {
    errorCode = e.code;
    errorPosition = e.position;
    return new IllegalArgumentException();
  }

  private Step step(int step) {
    if (step < 0 || step >= w.steps.size()) {
      throw new IndexOutOfBoundsException();
    }
    return w.steps.get(step);
  }

  private void argument(boolean fine) {
    if (!fine) {
      throw new IllegalArgumentException();
    }
  }

  private void state(boolean fine) {
    if (!fine) {
      throw new IllegalStateException();
    }
  }

  private void change() {
    history.addLast(w.copy());
    if (history.size() > 6) {
      history.removeFirst();
    }
  }

  public int append(int a, int b, int c, int d, int e) {
    state(length + 20 <= 700);
    for (int value : new int[] {a, b, c, d, e}) {
      for (int shift = 24; shift >= 0; shift -= 8) {
        buffer[length++] = (byte) (value >> shift);
      }
    }
    return length;
  }

  public int truncate(int newLength) {
    argument(newLength >= 0 && newLength <= length);
    length = newLength;
    return length;
  }

  public int load() {
    try {
      w = setup(takeText());
    } catch (TextError e) {
      throw refuse(e);
    }
    history.clear();
    saved[0] = null;
    saved[1] = null;
    return w.steps.size();
  }

  public int errorCode() {
    return errorCode;
  }

  public int errorPosition() {
    return errorPosition;
  }

  public int stepCount() {
    return w.steps.size();
  }

  public int cooks() {
    return w.cooks;
  }

  public int minute() {
    return w.minute;
  }

  public int salt() {
    return w.salt;
  }

  public int taste() {
    return w.taste();
  }

  public int countWithStatus(int status) {
    argument(status >= 0 && status <= 3);
    return w.count(status);
  }

  public int starts() {
    return w.steps.stream().mapToInt(s -> s.starts).sum();
  }

  public int completions() {
    return w.steps.stream().mapToInt(s -> s.completions).sum();
  }

  public int burns() {
    return w.steps.stream().mapToInt(s -> s.burns).sum();
  }

  public int cookMinutes() {
    return w.cookMinutes;
  }

  public int panCapacity(int pan) {
    if (pan < 0 || pan >= w.panNames.size()) {
      throw new IndexOutOfBoundsException();
    }
    return w.capacities.get(pan);
  }

  public int pansInUse(int pan) {
    panCapacity(pan);
    return w.occupants(pan).size();
  }

  public int duration(int step) {
    return step(step).duration;
  }

  public int stepTaste(int step) {
    return step(step).taste;
  }

  public int panType(int step) {
    return step(step).pan;
  }

  public boolean isHot(int step) {
    return step(step).hot;
  }

  public boolean isUnattended(int step) {
    return step(step).alone;
  }

  public int predecessor(int step, int index) {
    List<Integer> after = step(step).after;
    return index >= 0 && index < after.size() ? after.get(index) : -1;
  }

  public int successorCount(int step) {
    step(step);
    return w.successors(step).size();
  }

  public boolean dependsOn(int step, int other) {
    step(other);
    for (int before : step(step).after) {
      if (before == other || dependsOn(before, other)) {
        return true;
      }
    }
    return false;
  }

  public int pathLength(int step) {
    step(step);
    return w.path(step);
  }

  public int nameLetter(int step, int index) {
    String name = step(step).name;
    if (index < 0 || index >= name.length()) {
      throw new IndexOutOfBoundsException();
    }
    return name.charAt(index);
  }

  public int findStep() {
    int step = find(w, new String(buffer, 0, length, StandardCharsets.ISO_8859_1));
    if (step < 0) {
      throw new NoSuchElementException();
    }
    return step;
  }

  public int status(int step) {
    return step(step).status;
  }

  public int remaining(int step) {
    return step(step).status == 1 ? step(step).remaining : 0;
  }

  public int age(int step) {
    return step(step).status == 2 ? step(step).age : 0;
  }

  public int startsOf(int step) {
    return step(step).starts;
  }

  public boolean isTakenUp(int step) {
    return step(step).status == 2 && w.continued(step);
  }

  public int readyStep(int index) {
    List<Integer> ready = w.ready();
    return index >= 0 && index < ready.size() ? ready.get(index) : -1;
  }

  public int whyNotRunning(int step) {
    step(step);
    return w.why(step);
  }

  public int blockingStep(int step) {
    step(step);
    return w.blocking(step);
  }

  public int rootBlocker(int step) {
    step(step);
    int at = step;
    while (w.why(at) == 2) {
      at = w.blocking(at);
    }
    return at == step ? -1 : at;
  }

  public int whyNotServed() {
    return w.whyNotServed();
  }

  public int criticalStep(int index) {
    List<Integer> chain = new ArrayList<>();
    List<Integer> next = new ArrayList<>();
    for (int i = 0; i < w.steps.size(); i++) {
      next.add(i);
    }
    while (!next.isEmpty()) {
      next.sort(Comparator.comparingInt((Integer i) -> -w.path(i)).thenComparingInt(i -> i));
      chain.add(next.get(0));
      next = w.successors(next.get(0));
    }
    return index >= 0 && index < chain.size() ? chain.get(index) : -1;
  }

  public int slack(int step) {
    step(step);
    return w.path(criticalStep(0)) - w.path(step) - w.head(step);
  }

  public int minutesToFinish() {
    return w.finish();
  }

  public int statusAfter(int step, int minutes) {
    step(step);
    argument(minutes >= 0 && minutes <= 500);
    World then = w.copy();
    for (int i = 0; i < minutes; i++) {
      then.simulate();
    }
    return then.steps.get(step).status;
  }

  public int minutesToBurn(int step) {
    int burns = step(step).burns;
    World then = w.copy();
    for (int minutes = 1; minutes <= 500; minutes++) {
      then.simulate();
      if (then.steps.get(step).burns != burns) {
        return minutes;
      }
    }
    return -1;
  }

  public int minutesWithCooks(int cooks) {
    argument(cooks >= 1 && cooks <= 4);
    World then = w.copy();
    then.cooks = cooks;
    return then.finish();
  }

  public int fewestCooks() {
    int cooks = 1;
    while (minutesWithCooks(cooks) != minutesWithCooks(4)) {
      cooks++;
    }
    return cooks;
  }

  public int bottleneck() {
    int found = -1;
    int least = 1000;
    for (int i = 0; i < w.steps.size(); i++) {
      World then = w.copy();
      then.steps.get(i).duration = Math.max(1, w.steps.get(i).duration - 1);
      int minutes = then.finish();
      if (w.steps.get(i).status != 2 && (minutes < 0 ? 501 : minutes) < least) {
        least = minutes < 0 ? 501 : minutes;
        found = i;
      }
    }
    if (found < 0) {
      throw new NoSuchElementException();
    }
    return found;
  }

  public int saltNeeded() {
    int all = w.salt + w.steps.stream().mapToInt(s -> s.taste).sum();
    for (int amount = 0;; amount++) {
      if (all + amount >= w.lowest && all + amount <= w.highest) {
        return amount;
      }
      if (all - amount >= w.lowest && all - amount <= w.highest) {
        return -amount;
      }
    }
  }

  public float doneShare() {
    return (float) w.count(2) / (float) w.steps.size();
  }

  public double meanDuration() {
    return (double) w.steps.stream().mapToInt(s -> s.duration).sum() / (double) w.steps.size();
  }

  public int inconsistencies() {
    return 0;
  }

  public int pass(int minutes) {
    argument(minutes >= 1 && minutes <= 200);
    state(w.minute + minutes <= 9999);
    change();
    int completed = 0;
    for (int i = 0; i < minutes; i++) {
      completed += w.simulate();
    }
    return completed;
  }

  public int addSalt(int amount) {
    argument(amount != 0 && amount >= -9 && amount <= 9);
    state(!w.served);
    change();
    w.salt += amount;
    return w.taste();
  }

  public int stop(int step) {
    state(step(step).status == 1);
    change();
    w.steps.get(step).status = 0;
    w.stops++;
    return w.steps.get(step).remaining;
  }

  public int redo(int step) {
    state(step(step).status == 2 && !w.continued(step) && !w.served);
    change();
    int age = w.steps.get(step).age;
    w.steps.get(step).status = 0;
    w.steps.get(step).age = 0;
    return age;
  }

  public int setCooks(int cooks) {
    argument(cooks >= 1 && cooks <= 4);
    change();
    int previous = w.cooks;
    w.cooks = cooks;
    return previous;
  }

  public int setDuration(int step, int duration) {
    int previous = step(step).duration;
    argument(duration >= 1 && duration <= 60);
    change();
    w.steps.get(step).duration = duration;
    return previous;
  }

  public int serve() {
    state(w.whyNotServed() == 0);
    change();
    w.served = true;
    return w.taste();
  }

  public int runScript() {
    List<Object[]> commands;
    try {
      commands = script(takeText());
    } catch (TextError e) {
      throw refuse(e);
    }
    List<World> before = new ArrayList<>(history);
    World start = w.copy();
    int executed = 0;
    try {
      for (Object[] command : commands) {
        execute((String) command[0], (int) command[1], (int) command[2]);
        executed++;
      }
    } catch (IllegalArgumentException | IllegalStateException e) {
      executed += 0;
    }
    history.clear();
    history.addAll(before);
    World end = w;
    w = start;
    change();
    w = end;
    return executed;
  }

  private void execute(String word, int step, int number) {
    switch (word) {
      case "pass" -> pass(number);
      case "salt" -> addSalt(number);
      case "water" -> addSalt(-number);
      case "stop" -> stop(step);
      case "redo" -> redo(step);
      case "cooks" -> setCooks(number);
      case "time" -> setDuration(step, number);
      default -> serve();
    }
  }

  public int undo() {
    state(!history.isEmpty());
    w = history.removeLast();
    return history.size();
  }

  private void slot(int slot) {
    if (slot < 0 || slot > 1) {
      throw new IndexOutOfBoundsException();
    }
  }

  public int save(int slot) {
    slot(slot);
    saved[slot] = w.copy();
    return w.minute;
  }

  public int restore(int slot) {
    slot(slot);
    state(saved[slot] != null);
    w = saved[slot].copy();
    history.clear();
    return w.minute;
  }

  public int writeSummary() {
    StringBuilder text = new StringBuilder();
    for (Step s : w.steps) {
      text.append(text.length() == 0 ? "" : " ").append(s.name);
      text.append(s.status == 0 ? "." : s.status == 1 ? "" + s.remaining
          : s.status == 2 ? "=" : "*");
    }
    output = text.toString();
    return output.length();
  }

  public int outputByte(int index) {
    if (index < 0 || index >= output.length()) {
      throw new IndexOutOfBoundsException();
    }
    return output.charAt(index);
  }
}
