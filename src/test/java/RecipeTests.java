/** What the recipe answers: promises 7 to 29. */
final class RecipeTests {
  static final String LARGE = "recipe 4 9 0 99;pan big 3;pan tin 1;"
      + "step a 10 1;step b 20 2 in tin after a;step c 5 3 in big hot after a;"
      + "step d 8 4 alone after c b;step e 1 5 hot alone after d c a b;step lonely 60 9;";
  /** The only cook works on b when a, which is equally long, burns: a stays burnt until then. */
  static final String BURNING = "recipe 1 0 0 9;step a 5 1 hot;step b 5 2;";

  private RecipeTests() {}

  static void promise7StepCount() {
    RecipeScheduler x = Kit.fresh();
    Kit.due("stepCount()", x.stepCount(), 5);
    Kit.load(x, LARGE);
    Kit.due("stepCount()", x.stepCount(), 6);
  }

  static void promise8Cooks() {
    RecipeScheduler x = Kit.fresh();
    Kit.due("cooks()", x.cooks(), 1);
    Kit.load(x, LARGE);
    Kit.due("cooks()", x.cooks(), 4);
    x.setCooks(2);
    Kit.due("cooks()", x.cooks(), 2);
  }

  static void promise9Minute() {
    RecipeScheduler x = Kit.fresh();
    Kit.due("minute()", x.minute(), 0);
    x.pass(3);
    x.pass(20);
    Kit.due("minute()", x.minute(), 23);
  }

  static void promise10Salt() {
    RecipeScheduler x = Kit.fresh();
    Kit.due("salt()", x.salt(), 0);
    x.addSalt(-9);
    x.addSalt(-9);
    Kit.due("salt()", x.salt(), -18);
    x.addSalt(3);
    Kit.due("salt()", x.salt(), -15);
  }

  static void promise11Taste() {
    RecipeScheduler x = Kit.fresh();
    Kit.due("taste()", x.taste(), 0);
    x.addSalt(-2);
    Kit.due("taste()", x.taste(), -2);
    x.pass(6);
    Kit.due("taste() with cut and fry", x.taste(), 1 + 3 - 2);
    x.pass(3);
    Kit.due("taste() with cut and boil, fry burnt and started again", x.taste(), 1 + 2 - 2);
    x.pass(8);
    Kit.due("taste() of all", x.taste(), 1 + 2 + 3 + 1 - 2);
    x.redo(Kit.REST);
    x.redo(Kit.MIX);
    Kit.due("taste() without mix and rest", x.taste(), 4);
    RecipeScheduler y = Kit.loaded(BURNING);
    y.pass(6);
    Kit.due("taste() with a", y.taste(), 1);
    y.pass(1);
    Kit.due("taste() with a burnt", y.taste(), 0);
  }

  static void promise12CountWithStatus() {
    RecipeScheduler x = Kit.fresh();
    Kit.due("waiting", x.countWithStatus(RecipeScheduler.WAITING), 5);
    x.pass(6);
    Kit.due("waiting", x.countWithStatus(RecipeScheduler.WAITING), 2);
    Kit.due("running", x.countWithStatus(RecipeScheduler.RUNNING), 1);
    Kit.due("done", x.countWithStatus(RecipeScheduler.DONE), 2);
    Kit.due("burnt", x.countWithStatus(RecipeScheduler.BURNT), 0);
    for (int status : new int[] {-1, 4, Integer.MIN_VALUE, Integer.MAX_VALUE}) {
      Kit.throwsJust(Kit.ARGUMENT, "countWithStatus " + status, () -> x.countWithStatus(status));
    }
    Kit.load(x, BURNING);
    x.pass(7);
    Kit.due("burnt", x.countWithStatus(RecipeScheduler.BURNT), 1);
    Kit.due("running", x.countWithStatus(RecipeScheduler.RUNNING), 1);
    Kit.due("waiting", x.countWithStatus(RecipeScheduler.WAITING), 0);
  }

  static void promise13Starts() {
    RecipeScheduler x = Kit.fresh();
    Kit.due("starts()", x.starts(), 0);
    x.pass(1);
    Kit.due("starts()", x.starts(), 1);
    x.pass(3);
    Kit.due("starts() with boil and fry", x.starts(), 3);
    x.pass(5);
    Kit.due("starts() with fry again", x.starts(), 4);
    x.stop(Kit.FRY);
    x.pass(1);
    Kit.due("starts() with fry once more", x.starts(), 5);
    Kit.load(x, Kit.DEFAULT);
    Kit.due("starts() after load()", x.starts(), 0);
  }

  static void promise14Completions() {
    RecipeScheduler x = Kit.fresh();
    Kit.due("completions()", x.completions(), 0);
    x.pass(9);
    Kit.due("completions() of cut, fry and boil", x.completions(), 3);
    x.pass(8);
    Kit.due("completions() with fry twice", x.completions(), 6);
    x.redo(Kit.REST);
    Kit.due("completions() after redo()", x.completions(), 6);
    x.pass(5);
    Kit.due("completions() with rest twice", x.completions(), 7);
    Kit.load(x, Kit.DEFAULT);
    Kit.due("completions() after load()", x.completions(), 0);
  }

  static void promise15Burns() {
    RecipeScheduler x = Kit.fresh();
    x.pass(8);
    Kit.due("burns()", x.burns(), 0);
    x.pass(1);
    Kit.due("burns()", x.burns(), 1);
    Kit.load(x, "recipe 2 0 0 9;step a 1 1 hot;step b 1 1 hot;");
    Kit.due("burns() after load()", x.burns(), 0);
    x.pass(7);
    Kit.due("burns() of both in the minutes 3, 5 and 7", x.burns(), 6);
  }

  static void promise16CookMinutes() {
    RecipeScheduler x = Kit.fresh();
    x.pass(1);
    Kit.due("cookMinutes()", x.cookMinutes(), 0);
    x.pass(3);
    Kit.due("cookMinutes() of cut", x.cookMinutes(), 3);
    x.pass(5);
    Kit.due("cookMinutes() with fry, boil being unattended", x.cookMinutes(), 5);
    x.pass(100);
    Kit.due("cookMinutes() with fry again and mix", x.cookMinutes(), 9);
    Kit.load(x, "recipe 3 9 0 9;step a 4 1;step b 2 1;step c 9 1 alone;");
    Kit.due("cookMinutes() after load()", x.cookMinutes(), 0);
    x.pass(3);
    Kit.due("cookMinutes() of two cooks", x.cookMinutes(), 4);
    x.pass(1);
    x.stop(0);
    Kit.due("cookMinutes() of what was lost", x.cookMinutes(), 5);
  }

  static void promise17PanCapacity() {
    RecipeScheduler x = Kit.loaded(LARGE);
    Kit.due("panCapacity(0)", x.panCapacity(0), 3);
    Kit.due("panCapacity(1)", x.panCapacity(1), 1);
    for (int pan : new int[] {-1, 2, 3, 4, Integer.MIN_VALUE, Integer.MAX_VALUE}) {
      Kit.throwsJust(Kit.BOUNDS, "panCapacity " + pan, () -> x.panCapacity(pan));
    }
    Kit.load(x, "recipe 1 1 1 1;pan a 1;pan b 2;pan c 4;pan d 5;step a 1 1;");
    Kit.due("panCapacity(3)", x.panCapacity(3), 5);
    Kit.throwsJust(Kit.BOUNDS, "panCapacity 4", () -> x.panCapacity(4));
  }

  static void promise18PansInUse() {
    RecipeScheduler x = Kit.fresh();
    Kit.due("pansInUse(1)", x.pansInUse(1), 0);
    x.pass(1);
    Kit.due("pansInUse(1) by cut", x.pansInUse(1), 1);
    x.pass(3);
    Kit.due("pansInUse(1), cut being taken up", x.pansInUse(1), 0);
    Kit.due("pansInUse(0) by boil and fry", x.pansInUse(0), 2);
    x.pass(2);
    Kit.due("pansInUse(0), fry being held for mix", x.pansInUse(0), 2);
    x.pass(6);
    Kit.due("pansInUse(0), mix running", x.pansInUse(0), 0);
    Kit.due("pansInUse(1) by mix", x.pansInUse(1), 1);
    x.pass(1);
    Kit.due("pansInUse(1), rest running", x.pansInUse(1), 0);
    x.stop(Kit.REST);
    Kit.due("pansInUse(1), rest waiting", x.pansInUse(1), 1);
    for (int pan : new int[] {-1, 2, Integer.MIN_VALUE, Integer.MAX_VALUE}) {
      Kit.throwsJust(Kit.BOUNDS, "pansInUse " + pan, () -> x.pansInUse(pan));
    }
  }

  static void promise18APanIsHeldForOneOfSeveralSuccessors() {
    RecipeScheduler x = Kit.loaded("recipe 1 0 0 9;pan p 1;step a 1 1 in p;"
        + "step b 5 1 hot after a;step c 5 1 after a;step d 1 1 in p;");
    x.pass(2);
    Kit.due("b runs, c waits", Kit.summary(x), "a= b5 c. d.");
    Kit.due("pansInUse(0)", x.pansInUse(0), 1);
    x.pass(5);
    Kit.due("c runs, b is held", Kit.summary(x), "a= b= c5 d.");
    Kit.due("pansInUse(0)", x.pansInUse(0), 0);
    x.pass(1);
    Kit.due("b burns", Kit.summary(x), "a= b* c4 d.");
    Kit.due("pansInUse(0), held for the burnt step", x.pansInUse(0), 1);
  }

  static void promise18AStepWithoutSuccessorsHoldsNoPan() {
    RecipeScheduler x = Kit.loaded("recipe 1 0 0 9;pan p 1;step a 2 1 in p;step b 1 1;");
    x.pass(2);
    Kit.due("pansInUse(0)", x.pansInUse(0), 1);
    x.pass(1);
    Kit.due("status(0)", x.status(0), RecipeScheduler.DONE);
    Kit.due("pansInUse(0)", x.pansInUse(0), 0);
  }

  static void promise19Duration() {
    RecipeScheduler x = Kit.fresh();
    int[] due = {3, 5, 2, 2, 4};
    for (int step = 0; step < 5; step++) {
      Kit.due("duration " + step, x.duration(step), due[step]);
    }
    x.setDuration(3, 60);
    Kit.due("duration(3)", x.duration(3), 60);
  }

  static void promise20StepTaste() {
    RecipeScheduler x = Kit.fresh();
    int[] due = {1, 2, 3, 1, 0};
    for (int step = 0; step < 5; step++) {
      Kit.due("stepTaste " + step, x.stepTaste(step), due[step]);
    }
  }

  static void promise21PanType() {
    RecipeScheduler x = Kit.fresh();
    int[] due = {1, 0, 0, 1, RecipeScheduler.NONE};
    for (int step = 0; step < 5; step++) {
      Kit.due("panType " + step, x.panType(step), due[step]);
    }
    // The steps of the recipe before had pan types.
    Kit.load(x, "recipe 1 1 1 1;pan a 1;step a 1 1;step b 1 1;step c 1 1 in a;");
    Kit.due("panType(0)", x.panType(0), RecipeScheduler.NONE);
    Kit.due("panType(2)", x.panType(2), 0);
  }

  static void promise22IsHot() {
    RecipeScheduler x = Kit.fresh();
    for (int step = 0; step < 5; step++) {
      Kit.due("isHot " + step, x.isHot(step), step == Kit.FRY);
    }
  }

  static void promise23IsUnattended() {
    RecipeScheduler x = Kit.fresh();
    for (int step = 0; step < 5; step++) {
      Kit.due("isUnattended " + step, x.isUnattended(step), step == Kit.BOIL || step == Kit.REST);
    }
  }

  static void promise24Predecessor() {
    RecipeScheduler x = Kit.loaded(LARGE);
    int[][] due = {{}, {0}, {0}, {2, 1}, {3, 2, 0, 1}, {}};
    for (int step = 0; step < due.length; step++) {
      for (int i = -1; i < 6; i++) {
        int one = i >= 0 && i < due[step].length ? due[step][i] : RecipeScheduler.NONE;
        Kit.due("predecessor " + step + " " + i, x.predecessor(step, i), one);
      }
    }
    Kit.due("predecessor(4, max)", x.predecessor(4, Integer.MAX_VALUE), RecipeScheduler.NONE);
    Kit.due("predecessor(4, min)", x.predecessor(4, Integer.MIN_VALUE), RecipeScheduler.NONE);
    for (int step : Kit.NOWHERE) {
      Kit.throwsJust(Kit.BOUNDS, "predecessor " + step, () -> x.predecessor(step, -1));
    }
  }

  static void promise25SuccessorCount() {
    RecipeScheduler x = Kit.loaded(LARGE);
    int[] due = {3, 2, 2, 1, 0, 0};
    for (int step = 0; step < due.length; step++) {
      Kit.due("successorCount " + step, x.successorCount(step), due[step]);
    }
  }

  static void promise26DependsOn() {
    RecipeScheduler x = Kit.loaded(LARGE);
    String[] due = {"000000", "100000", "100000", "111000", "111100", "000000"};
    for (int step = 0; step < 6; step++) {
      for (int other = 0; other < 6; other++) {
        Kit.due("dependsOn " + step + " " + other, x.dependsOn(step, other),
            due[step].charAt(other) == '1');
      }
    }
    for (int step : Kit.NOWHERE) {
      Kit.throwsJust(Kit.BOUNDS, "dependsOn", () -> x.dependsOn(step, 0));
      Kit.throwsJust(Kit.BOUNDS, "dependsOn", () -> x.dependsOn(0, step));
      Kit.throwsJust(Kit.BOUNDS, "dependsOn", () -> x.dependsOn(step, step));
    }
    Kit.throwsJust(Kit.BOUNDS, "dependsOn", () -> x.dependsOn(1, 6));
    Kit.throwsJust(Kit.BOUNDS, "dependsOn", () -> x.dependsOn(6, 1));
  }

  static void promise26DependsOnThroughALongChain() {
    RecipeScheduler x = Kit.loaded(Kit.chain(14, 1));
    Kit.due("dependsOn(13, 0)", x.dependsOn(13, 0), true);
    Kit.due("dependsOn(0, 13)", x.dependsOn(0, 13), false);
    Kit.due("pathLength(0)", x.pathLength(0), 14);
    Kit.due("rootBlocker(13)", x.rootBlocker(13), 0);
    Kit.due("criticalStep(13)", x.criticalStep(13), 13);
    Kit.due("minutesToFinish()", x.minutesToFinish(), 15);
  }

  static void promise27PathLength() {
    RecipeScheduler x = Kit.loaded(LARGE);
    int[] due = {39, 29, 14, 9, 1, 60};
    for (int step = 0; step < due.length; step++) {
      Kit.due("pathLength " + step, x.pathLength(step), due[step]);
    }
    x.setDuration(2, 30);
    Kit.due("pathLength(2)", x.pathLength(2), 39);
    Kit.due("pathLength(0)", x.pathLength(0), 49);
    x.undo();
    Kit.due("pathLength(0)", x.pathLength(0), 39);
    // The status has no say in it.
    x.pass(60);
    Kit.due("pathLength(0)", x.pathLength(0), 39);
  }

  static void promise28NameLetter() {
    RecipeScheduler x = Kit.loaded(LARGE);
    String name = "lonely";
    for (int i = 0; i < 6; i++) {
      Kit.due("nameLetter 5 " + i, x.nameLetter(5, i), name.charAt(i));
    }
    Kit.due("nameLetter(1, 0)", x.nameLetter(1, 0), 'b');
    Kit.throwsJust(Kit.BOUNDS, "nameLetter(1, 1)", () -> x.nameLetter(1, 1));
    Kit.throwsJust(Kit.BOUNDS, "nameLetter(5, 6)", () -> x.nameLetter(5, 6));
    for (int index : new int[] {-1, 7, Integer.MIN_VALUE, Integer.MAX_VALUE}) {
      Kit.throwsJust(Kit.BOUNDS, "nameLetter 5 " + index, () -> x.nameLetter(5, index));
    }
    for (int step : Kit.NOWHERE) {
      Kit.throwsJust(Kit.BOUNDS, "nameLetter", () -> x.nameLetter(step, 0));
    }
    Kit.throwsJust(Kit.BOUNDS, "nameLetter", () -> x.nameLetter(6, 0));
  }

  static void promise29FindStep() {
    RecipeScheduler x = Kit.fresh();
    Kit.throwsJust(Kit.ELEMENT, "findStep() of nothing", x::findStep);
    Kit.feed(x, "fry");
    Kit.due("findStep()", x.findStep(), Kit.FRY);
    Kit.due("findStep() again", x.findStep(), Kit.FRY);
    Kit.due("truncate(3)", x.truncate(3), 3);
    x.truncate(2);
    Kit.throwsJust(Kit.ELEMENT, "findStep() of a part", x::findStep);
    Kit.feed(x, "y ");
    Kit.throwsJust(Kit.ELEMENT, "findStep() with a space behind", x::findStep);
    for (String text : new String[] {" fry", "pot", "fryfry", "FRY", "fr\u0079\0", "cutboil"}) {
      x.truncate(0);
      Kit.feed(x, text);
      Kit.throwsJust(Kit.ELEMENT, "findStep() of " + text, x::findStep);
    }
    x.truncate(0);
    Kit.feed(x, "rest");
    Kit.due("findStep()", x.findStep(), Kit.REST);
    Kit.feed(x, "x".repeat(600));
    Kit.throwsJust(Kit.ELEMENT, "findStep() of a long text", x::findStep);
  }

  static void promise30AndOthersRefuseAStepThatDoesNotExist() {
    RecipeScheduler x = Kit.loaded(LARGE);
    for (int step : new int[] {-1, 6, 7, 14, 1 << 20, Integer.MAX_VALUE, Integer.MIN_VALUE}) {
      refuse(x, step);
    }
    Kit.load(x, "recipe 1 1 1 1;step a 1 1;");
    refuse(x, 1);
  }

  private static void refuse(RecipeScheduler x, int step) {
    String at = " of " + step;
    Kit.throwsJust(Kit.BOUNDS, "duration" + at, () -> x.duration(step));
    Kit.throwsJust(Kit.BOUNDS, "stepTaste" + at, () -> x.stepTaste(step));
    Kit.throwsJust(Kit.BOUNDS, "panType" + at, () -> x.panType(step));
    Kit.throwsJust(Kit.BOUNDS, "isHot" + at, () -> x.isHot(step));
    Kit.throwsJust(Kit.BOUNDS, "isUnattended" + at, () -> x.isUnattended(step));
    Kit.throwsJust(Kit.BOUNDS, "predecessor" + at, () -> x.predecessor(step, 0));
    Kit.throwsJust(Kit.BOUNDS, "successorCount" + at, () -> x.successorCount(step));
    Kit.throwsJust(Kit.BOUNDS, "pathLength" + at, () -> x.pathLength(step));
    Kit.throwsJust(Kit.BOUNDS, "status" + at, () -> x.status(step));
    Kit.throwsJust(Kit.BOUNDS, "remaining" + at, () -> x.remaining(step));
    Kit.throwsJust(Kit.BOUNDS, "age" + at, () -> x.age(step));
    Kit.throwsJust(Kit.BOUNDS, "startsOf" + at, () -> x.startsOf(step));
    Kit.throwsJust(Kit.BOUNDS, "isTakenUp" + at, () -> x.isTakenUp(step));
    Kit.throwsJust(Kit.BOUNDS, "whyNotRunning" + at, () -> x.whyNotRunning(step));
    Kit.throwsJust(Kit.BOUNDS, "blockingStep" + at, () -> x.blockingStep(step));
    Kit.throwsJust(Kit.BOUNDS, "rootBlocker" + at, () -> x.rootBlocker(step));
    Kit.throwsJust(Kit.BOUNDS, "slack" + at, () -> x.slack(step));
    Kit.throwsJust(Kit.BOUNDS, "minutesToBurn" + at, () -> x.minutesToBurn(step));
    Kit.throwsJust(Kit.BOUNDS, "statusAfter" + at, () -> x.statusAfter(step, -1));
    Kit.throwsJust(Kit.BOUNDS, "stop" + at, () -> x.stop(step));
    Kit.throwsJust(Kit.BOUNDS, "redo" + at, () -> x.redo(step));
    Kit.throwsJust(Kit.BOUNDS, "setDuration" + at, () -> x.setDuration(step, 0));
  }
}
