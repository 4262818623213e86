/** Promises 30 to 41 at their limits: how far the steps are and why not farther. */
final class ProgressBoundaries {
  private static final int NONE = RecipeScheduler.NONE;
  private static final String A_STEP = "`step`: number of a step";
  private static final String NO_STEP =
      "Throws `IndexOutOfBoundsException` if the step does not exist";
  private static final String WHY = "Returns the first reason that applies: 0 if the step is "
      + "running, 1 if it is done, 2 if a predecessor is not done, 3 if its pan type has no free "
      + "pan, 4 if it is not unattended and all cooks are occupied (at least as many running steps "
      + "that are not unattended as cooks), 5 otherwise.";
  private static final String BLOCKING = "Returns for reason 2 of whyNotRunning() the first "
      + "predecessor in the order of the setup text that is not done, for reason 3 the "
      + "lowest-numbered step that occupies a pan of the pan type, for reason 4 the "
      + "lowest-numbered running step that is not unattended; NONE for all other reasons.";
  private static final String ROOT = "Returns the last step of the chain that goes from the step "
      + "to its blocking step, and on in the same way, as long as whyNotRunning() returns 2; NONE "
      + "if whyNotRunning() of the given step does not return 2.";
  private static final String NOT_SERVED = "Returns the first reason that applies: 1 if it was "
      + "already served, 2 if a step is burnt, 3 if a step is not done, 4 if the taste is below "
      + "the lowest allowed taste, 5 if it is above the highest one; 0 if the dish can be served.";
  private static final String CHAIN = Kit.chain(14, 1);

  private ProgressBoundaries() {}

  private static RecipeScheduler after(int minutes, String setup) {
    RecipeScheduler x = Kit.loaded(setup);
    x.pass(minutes);
    return x;
  }

  @Sentence({"Returns the status of a step.", "Returns WAITING, RUNNING, DONE or BURNT."})
  static void promise30TheFourStatuses() {
    RecipeScheduler x = Kit.loaded(ProgressTermsBoundaries.BURNT_AFTER);
    int[] due = {0, 0, 1, 1, 1, 1, 1, 2, 3, 3, 3, 1};
    for (int minute = 0; minute < due.length; minute++) {
      Kit.due("status(1) in minute " + minute, x.status(1), due[minute]);
      x.pass(1);
    }
  }

  @Sentence({A_STEP, NO_STEP})
  static void promise30OtherStepsAreRefused() {
    Kit.answersStepsThatExist("status", (x, step) -> x.status(step),
        step -> RecipeScheduler.WAITING);
  }

  @Sentence("Returns the remaining minutes; 0 if the step is not running.")
  static void promise31From60To1Or0() {
    RecipeScheduler x = Kit.loaded("recipe 1 0 0 9;step a 60 1 hot;step b 60 1;");
    Kit.due("remaining(0), waiting", x.remaining(0), 0);
    for (int due = 60; due > 0; due--) {
      x.pass(1);
      Kit.due("remaining(0)", x.remaining(0), due);
    }
    x.pass(1);
    Kit.due("remaining(0), done", x.remaining(0), 0);
    x.pass(1);
    Kit.due("status(0)", x.status(0), RecipeScheduler.BURNT);
    Kit.due("remaining(0), burnt", x.remaining(0), 0);
    x.stop(1);
    Kit.due("remaining(1), stopped", x.remaining(1), 0);
  }

  @Sentence({A_STEP, NO_STEP})
  static void promise31OtherStepsAreRefused() {
    Kit.answersStepsThatExist("remaining", (x, step) -> x.remaining(step), step -> 0);
  }

  @Sentence("Returns the age in minutes; 0 if the step is not done.")
  static void promise32From0To30() {
    RecipeScheduler x = Kit.loaded("recipe 1 30 0 9;step a 2 1 hot;");
    x.pass(2);
    Kit.due("age(0), running", x.age(0), 0);
    for (int due = 0; due <= 30; due++) {
      x.pass(1);
      Kit.due("age(0)", x.age(0), due);
    }
    x.save(0);
    x.pass(1);
    Kit.due("age(0), burnt and running again", x.age(0), 0);
    x.restore(0);
    x.redo(0);
    Kit.due("age(0), waiting again", x.age(0), 0);
    RecipeScheduler burnt = after(8, ProgressTermsBoundaries.BURNT_AFTER);
    Kit.due("age(1), burnt", burnt.age(1), 0);
  }

  @Sentence({A_STEP, NO_STEP})
  static void promise32OtherStepsAreRefused() {
    Kit.answersStepsThatExist("age", (x, step) -> x.age(step), step -> 0);
  }

  @Sentence({"Returns how often a step was started since the latest setup.",
      "Returns the number of starts."})
  static void promise33StartsOfOneStepFrom0() {
    RecipeScheduler x = Kit.loaded("recipe 2 0 0 9;step a 1 1 hot;step b 60 1;");
    int[] due = {0, 1, 1, 2, 2, 3, 3};
    for (int minute = 0; minute < due.length; minute++) {
      Kit.due("startsOf(0) in minute " + minute, x.startsOf(0), due[minute]);
      Kit.due("startsOf(1) in minute " + minute, x.startsOf(1), minute > 0 ? 1 : 0);
      x.pass(1);
    }
    Kit.load(x, Kit.DEFAULT);
    Kit.due("startsOf(0) after a valid setup", x.startsOf(0), 0);
  }

  @Sentence({A_STEP, NO_STEP})
  static void promise33OtherStepsAreRefused() {
    Kit.answersStepsThatExist("startsOf", (x, step) -> x.startsOf(step), step -> 0);
  }

  @Sentence("Returns true if the step is done and at least one of its successors is running or "
      + "done.")
  static void promise34DoneAndOneSuccessorOrNone() {
    RecipeScheduler x = Kit.loaded("recipe 1 9 0 9;step a 1 1;step b 2 1 after a;"
        + "step c 1 1 after a;step d 1 1;");
    boolean[] due = {false, false, true, true, true, true, true};
    for (int minute = 0; minute < due.length; minute++) {
      Kit.due("isTakenUp(0) in minute " + minute, x.isTakenUp(0), due[minute]);
      x.pass(1);
    }
    Kit.due("all done", x.countWithStatus(RecipeScheduler.DONE), 4);
    Kit.due("isTakenUp(0), both done", x.isTakenUp(0), true);
    Kit.due("isTakenUp(3), without successors", x.isTakenUp(3), false);
    x.redo(1);
    Kit.due("isTakenUp(0), c done", x.isTakenUp(0), true);
    x.redo(2);
    Kit.due("isTakenUp(0), none", x.isTakenUp(0), false);
  }

  @Sentence({A_STEP, NO_STEP})
  static void promise34OtherStepsAreRefused() {
    Kit.answersStepsThatExist("isTakenUp", (x, step) -> x.isTakenUp(step), step -> false);
  }

  @Sentence({"`index`: position among the ready steps, from 0, in the order of phase 3",
      "Returns the number of the step; NONE if index is negative or there are not so many ready "
      + "steps."})
  static void promise35PositionsOnBothSidesOfTheReadySteps() {
    RecipeScheduler x = Kit.loaded("recipe 1 0 0 9;step a 3 1;step b 9 1;step c 9 1;step d 1 1;"
        + "step e 9 1 after d;step f 3 1 alone;");
    int[] due = {3, 1, 2, 0, 5};
    for (int index = 0; index < due.length; index++) {
      Kit.due("readyStep " + index, x.readyStep(index), due[index]);
    }
    for (int index : Kit.around(5)) {
      Kit.due("readyStep " + index, x.readyStep(index), NONE);
    }
    x.pass(1);
    Kit.due("readyStep(2), d and f running", x.readyStep(2), 0);
    Kit.due("readyStep(3), d and f running", x.readyStep(3), NONE);
  }

  @Sentence("Returns the number of the step; NONE if index is negative or there are not so many "
      + "ready steps.")
  static void promise35NoReadyStepOr14() {
    Kit.due("readyStep(0)", Kit.FINISHED.made().readyStep(0), NONE);
    RecipeScheduler x = Kit.loaded(Kit.steps(14));
    for (int index = 0; index < 14; index++) {
      Kit.due("readyStep " + index, x.readyStep(index), 13 - index);
    }
    Kit.due("readyStep(14)", x.readyStep(14), NONE);
    Kit.due("readyStep(-1)", x.readyStep(-1), NONE);
  }

  @Sentence(WHY)
  static void promise36RunningOrDone() {
    RecipeScheduler x = after(1, "recipe 1 0 0 9;step a 1 1;step b 1 1;");
    Kit.due("whyNotRunning(0), running", x.whyNotRunning(0), 0);
    x.pass(1);
    Kit.due("whyNotRunning(0), done", x.whyNotRunning(0), 1);
  }

  @Sentence(WHY)
  static void promise36OneOfFourPredecessors() {
    RecipeScheduler x = after(2, "recipe 4 0 0 9;pan p 1;step a 1 1;step b 1 1;step c 1 1;"
        + "step d 2 1;step e 1 1 in p after a b c d;step f 60 1 in p alone;");
    Kit.due("whyNotRunning(4), d not done, nor a pan free", x.whyNotRunning(4), 2);
    x.pass(1);
    Kit.due("whyNotRunning(4), all done", x.whyNotRunning(4), 3);
  }

  @Sentence(WHY)
  static void promise36NoFreePanWhateverTheCooksDo() {
    String setup = "recipe 2 0 0 9;pan p 2;step a 9 1 in p;step b 8 1 in p;step c 7 1 in p;";
    RecipeScheduler x = after(1, setup);
    Kit.due("whyNotRunning(2), neither", x.whyNotRunning(2), 3);
    x.setCooks(3);
    Kit.due("whyNotRunning(2), a cook alone", x.whyNotRunning(2), 3);
    x.setCooks(1);
    x.stop(1);
    Kit.due("whyNotRunning(2), a pan alone", x.whyNotRunning(2), 4);
    x.setCooks(2);
    Kit.due("whyNotRunning(2), both", x.whyNotRunning(2), 5);
  }

  @Sentence(WHY)
  static void promise36AsManyRunningStepsAsCooks() {
    RecipeScheduler x = after(1, "recipe 3 0 0 9;step a 9 1;step b 9 1;step c 9 1;step d 5 1;"
        + "step e 5 1 alone;");
    Kit.due("whyNotRunning(3), as many", x.whyNotRunning(3), 4);
    x.setCooks(2);
    Kit.due("whyNotRunning(3), more", x.whyNotRunning(3), 4);
    x.setCooks(4);
    Kit.due("whyNotRunning(3), fewer", x.whyNotRunning(3), 5);
    x.setCooks(1);
    x.stop(4);
    Kit.due("whyNotRunning(4), unattended", x.whyNotRunning(4), 5);
  }

  @Sentence(WHY)
  static void promise36ABurntStep() {
    RecipeScheduler x = after(8, ProgressTermsBoundaries.BURNT_AFTER);
    Kit.due("status(1)", x.status(1), RecipeScheduler.BURNT);
    Kit.due("whyNotRunning(1)", x.whyNotRunning(1), 4);
    x.setCooks(2);
    Kit.due("whyNotRunning(1)", x.whyNotRunning(1), 5);
  }

  @Sentence({A_STEP, NO_STEP})
  static void promise36OtherStepsAreRefused() {
    Kit.answersStepsThatExist("whyNotRunning", (x, step) -> x.whyNotRunning(step), step -> 5);
  }

  @Sentence(BLOCKING)
  static void promise37TheFirstPredecessorOfTheText() {
    String setup = "recipe 4 9 0 9;step a 4 1;step b 3 1;step c 2 1;step d 1 1;"
        + "step e 1 1 after d b c a;";
    int[] due = {3, 3, 1, 1, 0, NONE};
    for (int minute = 0; minute < due.length; minute++) {
      Kit.due("blockingStep(4) in minute " + minute,
          Kit.atMinute(minute, Kit.made(setup)).made().blockingStep(4), due[minute]);
    }
  }

  @Sentence(BLOCKING)
  static void promise37TheLowestStepThatHasAPan() {
    RecipeScheduler x = after(2, "recipe 4 9 0 99;pan p 2;step z 60 1;step a 1 1 in p;"
        + "step b 20 1 after a;step c 9 1 in p;step d 9 1 in p;step e 1 1 in p;");
    Kit.due("summary", Kit.summary(x), "z59 a= b20 c8 d9 e.");
    Kit.due("blockingStep(5), c and d", x.blockingStep(5), 3);
    x.stop(2);
    Kit.due("blockingStep(5), a too", x.blockingStep(5), 1);
    x.redo(1);
    x.stop(3);
    Kit.due("blockingStep(5), one pan being free", x.blockingStep(5), NONE);
  }

  @Sentence(BLOCKING)
  static void promise37TheLowestStepThatHasACook() {
    RecipeScheduler x = after(1, "recipe 2 9 0 9;step z 9 1 alone;step a 1 1;step b 9 1;"
        + "step c 9 1;step d 5 1;");
    Kit.due("summary", Kit.summary(x), "z9 a. b9 c9 d.");
    Kit.due("blockingStep(4), b and c", x.blockingStep(4), 2);
    Kit.due("blockingStep(1), b and c", x.blockingStep(1), 2);
    x.stop(2);
    Kit.due("blockingStep(4), one cook being free", x.blockingStep(4), NONE);
    x.setCooks(1);
    Kit.due("blockingStep(4), c", x.blockingStep(4), 3);
  }

  @Sentence(BLOCKING)
  static void promise37TheFirstAndTheLastOf14Steps() {
    String setup = Kit.steps(14).replace("recipe 4", "recipe 1").replace(";", " in p;")
        .replace("99 in p;", "99;pan p 1;");
    RecipeScheduler last = after(1, setup);
    Kit.due("blockingStep(0) with reason 3", last.blockingStep(0), 13);
    last.stop(13);
    last.setDuration(0, 60);
    last.pass(1);
    Kit.due("blockingStep(13) with reason 3", last.blockingStep(13), 0);
    RecipeScheduler cook = after(1, setup.replace(" in p", ""));
    Kit.due("blockingStep(0) with reason 4", cook.blockingStep(0), 13);
    cook.stop(13);
    cook.setDuration(0, 60);
    cook.pass(1);
    Kit.due("blockingStep(13) with reason 4", cook.blockingStep(13), 0);
  }

  @Sentence(BLOCKING)
  static void promise37NoneForAllOtherReasons() {
    RecipeScheduler x = Kit.fresh();
    Kit.due("blockingStep(CUT) with reason 5", x.blockingStep(Kit.CUT), NONE);
    x.pass(1);
    Kit.due("blockingStep(CUT) with reason 0", x.blockingStep(Kit.CUT), NONE);
    x.pass(3);
    Kit.due("blockingStep(CUT) with reason 1", x.blockingStep(Kit.CUT), NONE);
  }

  @Sentence({A_STEP, NO_STEP})
  static void promise37OtherStepsAreRefused() {
    Kit.answersStepsThatExist("blockingStep", (x, step) -> x.blockingStep(step), step -> NONE);
  }

  @Sentence(ROOT)
  static void promise38ChainsOf0To13Steps() {
    RecipeScheduler x = Kit.loaded(CHAIN);
    for (int minute = 0; minute <= 15; minute++) {
      int first = Math.max(0, minute - 1);
      for (int step = 0; step < 14; step++) {
        Kit.due("rootBlocker " + step + " in minute " + minute, x.rootBlocker(step),
            step > first ? first : NONE);
      }
      x.pass(1);
    }
  }

  @Sentence(ROOT)
  static void promise38TheChainEndsAtAnotherReasonThan2() {
    RecipeScheduler x = after(1, "recipe 1 9 0 9;pan p 1;step a 9 1 in p;step b 1 1 in p;"
        + "step c 1 1 after b;step d 1 1;step e 1 1 after d;step f 1 1 after c e;");
    Kit.due("rootBlocker(2), b lacking a pan", x.rootBlocker(2), 1);
    Kit.due("rootBlocker(4), d lacking a cook", x.rootBlocker(4), 3);
    Kit.due("rootBlocker(5), by c", x.rootBlocker(5), 1);
    Kit.due("rootBlocker(1) with reason 3", x.rootBlocker(1), NONE);
    Kit.due("rootBlocker(3) with reason 4", x.rootBlocker(3), NONE);
    Kit.due("rootBlocker(0) with reason 0", x.rootBlocker(0), NONE);
  }

  @Sentence({A_STEP, NO_STEP})
  static void promise38OtherStepsAreRefused() {
    Kit.answersStepsThatExist("rootBlocker", (x, step) -> x.rootBlocker(step), step -> NONE);
  }

  @Sentence(NOT_SERVED)
  static void promise39TheTasteOnBothSidesOfTheRange() {
    int[] salts = {-4, -3, 2, 3};
    int[] due = {4, 0, 0, 5};
    for (int i = 0; i < 4; i++) {
      int salt = salts[i];
      Kit.due("whyNotServed() with salt " + salt,
          Kit.FINISHED.then(x -> x.addSalt(salt)).made().whyNotServed(), due[i]);
    }
  }

  @Sentence(NOT_SERVED)
  static void promise39TheFirstOfSeveralReasons() {
    RecipeScheduler x = Kit.made("recipe 1 0 0 9;step a 5 1 hot;step b 4 1;")
        .then(y -> y.addSalt(9), y -> y.addSalt(9), y -> y.pass(7)).made();
    Kit.due("burnt, not done and too salty", x.whyNotServed(), 2);
    x.pass(3);
    Kit.due("not done and too salty", x.whyNotServed(), 3);
    x.pass(5);
    Kit.due("too salty", x.whyNotServed(), 5);
    x.addSalt(-9);
    x.addSalt(-9);
    Kit.due("none", x.whyNotServed(), 0);
    x.serve();
    Kit.due("served", x.whyNotServed(), 1);
    Kit.due("nothing is done", Kit.fresh().whyNotServed(), 3);
    Kit.due("all but one are done", Kit.NEW.then(y -> y.pass(16)).made().whyNotServed(), 3);
  }

  @Sentence({"The critical path begins with the step with the greatest path length, and each "
      + "further step is the successor of the previous one with the greatest path length.",
      "The lowest number wins a tie."})
  static void promise40TheGreatestPathLengthAndItsTies() {
    RecipeScheduler x = Kit.loaded("recipe 1 1 0 9;step a 3 1;step b 3 1;step c 2 1 after b;"
        + "step d 4 1 after a b;step e 4 1 after a;step f 2 1 after c;");
    Kit.due("criticalStep(0) of a and b", x.criticalStep(0), 0);
    Kit.due("criticalStep(1) of d and e", x.criticalStep(1), 3);
    x.setDuration(4, 5);
    Kit.due("criticalStep(1), e being longer", x.criticalStep(1), 4);
    x.setDuration(1, 5);
    Kit.due("criticalStep(0), b being longer", x.criticalStep(0), 1);
    Kit.due("criticalStep(1) of c and d", x.criticalStep(1), 2);
    Kit.due("criticalStep(2)", x.criticalStep(2), 5);
    Kit.due("criticalStep(3)", x.criticalStep(3), NONE);
  }

  @Sentence({"`index`: position in the critical path, from 0",
      "Returns the number of the step; NONE if index is negative or the path is shorter."})
  static void promise40PositionsOnBothSidesOfThePath() {
    for (int count : new int[] {1, 2, 13, 14}) {
      RecipeScheduler x = Kit.loaded(Kit.chain(count, 1));
      for (int index = 0; index < count; index++) {
        Kit.due("criticalStep " + index, x.criticalStep(index), index);
      }
      for (int index : Kit.around(count)) {
        Kit.due("criticalStep " + index, x.criticalStep(index), NONE);
      }
    }
    RecipeScheduler x = Kit.loaded(Kit.steps(14));
    Kit.due("criticalStep(0)", x.criticalStep(0), 13);
    Kit.due("criticalStep(1)", x.criticalStep(1), NONE);
  }

  @Sentence("The head of a step is the greatest sum of durations along a chain of predecessors "
      + "that ends directly in front of the step, or 0 without predecessors.")
  static void promise41HeadsFrom0To780() {
    RecipeScheduler x = Kit.loaded("recipe 1 1 0 9;step a 3 1;step b 5 1;step c 2 1 after a;"
        + "step d 1 1 after c b;step e 60 1;");
    // The heads are 0, 0, 3, 5 and 0.
    int[] due = {60 - 6 - 0, 60 - 6 - 0, 60 - 3 - 3, 60 - 1 - 5, 0};
    for (int step = 0; step < 5; step++) {
      Kit.due("slack " + step, x.slack(step), due[step]);
    }
    x.setDuration(0, 4);
    Kit.due("slack(3) with a head of 6", x.slack(3), 60 - 1 - 6);
    x.setDuration(0, 1);
    Kit.due("slack(3) with a head of 5", x.slack(3), 60 - 1 - 5);
    Kit.due("slack(2) with a head of 1", x.slack(2), 60 - 3 - 1);
    x.setDuration(1, 1);
    Kit.due("slack(3) with a head of 3", x.slack(3), 60 - 1 - 3);
    RecipeScheduler y = Kit.loaded(Kit.chain(14, 60));
    Kit.due("slack(13) with a head of 780", y.slack(13), 0);
    y.setDuration(13, 1);
    Kit.due("slack(13) with a head of 780", y.slack(13), 0);
  }

  @Sentence("Returns the greatest path length of all steps, minus the path length of this step, "
      + "minus its head.")
  static void promise41SlacksFrom0() {
    RecipeScheduler x = Kit.loaded(Kit.steps(14));
    for (int step = 0; step < 14; step++) {
      Kit.due("slack " + step, x.slack(step), 13 - step);
    }
    RecipeScheduler y = Kit.loaded(CHAIN);
    for (int step = 0; step < 14; step++) {
      Kit.due("slack " + step, y.slack(step), 0);
    }
    y.pass(10);
    Kit.due("slack(13), whatever is done", y.slack(13), 0);
  }

  @Sentence({A_STEP, NO_STEP})
  static void promise41OtherStepsAreRefused() {
    for (int count : new int[] {1, 5, 14}) {
      Kit.Make make = Kit.rich(Kit.made(Kit.steps(count)));
      Kit.due("slack of the first step", make.made().slack(0), count - 1);
      Kit.due("slack of the last step", make.made().slack(count - 1), 0);
      Kit.refuses(Kit.BOUNDS, make, "slack", Kit.around(count), (x, step) -> x.slack(step));
    }
  }
}
