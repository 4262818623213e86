/** Promises 52 to 59 at their limits: the changes. */
final class ChangeBoundaries {
  private static final String A_STEP = "`step`: number of a step";
  private static final String NO_STEP =
      "Throws `IndexOutOfBoundsException` if the step does not exist";
  private static final String SCRIPT_PARSES = "Parses the input buffer as a script and empties the "
      + "buffer, also if the text has an error.";
  private static final String ONE_CHANGE = "A valid script is executed and counts as a single "
      + "change, even if no command was executed.";
  private static final Kit.Make RUNNING = Kit.rich(Kit.made(Kit.steps(14)).then(x -> x.pass(1)));

  private ChangeBoundaries() {}

  @Sentence("`minutes`: 1 to 200")
  static void promise52From1To200Minutes() {
    Kit.due("minute()", Kit.NEW.then(x -> x.pass(1)).made().minute(), 1);
    Kit.due("minute()", Kit.NEW.then(x -> x.pass(200)).made().minute(), 200);
    RecipeScheduler x = Kit.made("recipe 1 0 0 9;step a 60 1 hot;").then(y -> y.pass(200)).made();
    Kit.due("burns() in the minutes 62, 123 and 184", x.burns(), 3);
    Kit.due("remaining(0)", x.remaining(0), 60 - 16);
  }

  @Sentence({"Simulates some minutes.", "Returns how often a step became done in these minutes."})
  static void promise52FromNoStepToTheSameStepAgainAndAgain() {
    Kit.due("pass(3)", Kit.fresh().pass(3), 0);
    Kit.due("pass(4)", Kit.fresh().pass(4), 1);
    Kit.due("pass(17) with fry twice", Kit.fresh().pass(17), 6);
    Kit.due("pass(1), all done", Kit.FINISHED.made().pass(1), 0);
    Kit.due("pass(200), served", Kit.SERVED.made().pass(200), 0);
    Kit.due("pass(2) of 14 steps at once",
        Kit.loaded(Kit.steps(14).replaceAll(" \\d+ \\d;", " 1 1 alone;")).pass(2), 14);
    Kit.due("pass(200) of a step that burns every second minute",
        Kit.loaded("recipe 1 0 0 9;step a 1 1 hot;").pass(200), 100);
  }

  @Sentence("Throws `IllegalArgumentException` if minutes is out of range")
  static void promise52OtherMinutesAreRefused() {
    int[] others = {0, -1, 201, 202, Integer.MAX_VALUE, Integer.MIN_VALUE};
    Kit.refuses(Kit.ARGUMENT, Kit.USED, "pass", others, (x, minutes) -> x.pass(minutes));
    Kit.refuses(Kit.ARGUMENT, Kit.rich(Kit.SERVED), "pass", others,
        (x, minutes) -> x.pass(minutes));
    Kit.refuses(Kit.ARGUMENT, Kit.rich(Kit.atMinute(9999, Kit.NEW)), "pass", others,
        (x, minutes) -> x.pass(minutes));
  }

  @Sentence("Throws `IllegalStateException` if the current minute would exceed 9999")
  static void promise52Minute9999AndNot10000() {
    for (int before : new int[] {9799, 9800, 9998}) {
      Kit.Make make = Kit.atMinute(before, Kit.NEW);
      int most = Math.min(200, 9999 - before);
      RecipeScheduler x = make.then(y -> y.pass(most)).made();
      Kit.due("minute()", x.minute(), before + most);
      if (most < 200) {
        Kit.refuses(Kit.STATE, Kit.rich(make), "pass", new int[] {most + 1, 200},
            (y, minutes) -> y.pass(minutes));
      }
    }
    Kit.refuses(Kit.STATE, Kit.rich(Kit.atMinute(9999, Kit.NEW)), "pass", new int[] {1, 200},
        (x, minutes) -> x.pass(minutes));
    Kit.refuses(Kit.STATE, Kit.rich(Kit.atMinute(9999, Kit.SERVED)), "pass", new int[] {1},
        (x, minutes) -> x.pass(minutes));
  }

  @Sentence("`amount`: -9 to 9, but not 0")
  static void promise53AmountsBut0() {
    for (int amount : new int[] {-9, -8, -1, 1, 8, 9}) {
      RecipeScheduler x = Kit.fresh();
      x.addSalt(amount);
      Kit.due("salt()", x.salt(), amount);
    }
  }

  @Sentence({"Adds to the salt.", "Returns the new taste of the dish."})
  static void promise53TheTasteWithAndWithoutSteps() {
    RecipeScheduler x = Kit.fresh();
    Kit.due("addSalt(-9)", x.addSalt(-9), -9);
    Kit.due("addSalt(9)", x.addSalt(9), 0);
    Kit.due("addSalt(1)", x.addSalt(1), 1);
    Kit.due("salt()", x.salt(), 1);
    Kit.due("addSalt(-9) with all steps done", Kit.FINISHED.made().addSalt(-9), -2);
    Kit.due("addSalt(9) with all steps done", Kit.FINISHED.made().addSalt(9), 16);
  }

  @Sentence("Throws `IllegalArgumentException` if amount is out of range")
  static void promise53OtherAmountsAreRefused() {
    int[] others = {0, 10, -10, 11, Integer.MAX_VALUE, Integer.MIN_VALUE};
    Kit.refuses(Kit.ARGUMENT, Kit.USED, "addSalt", others, (x, amount) -> x.addSalt(amount));
    Kit.refuses(Kit.ARGUMENT, Kit.rich(Kit.SERVED), "addSalt", others,
        (x, amount) -> x.addSalt(amount));
  }

  @Sentence("Throws `IllegalStateException` if the dish was already served")
  static void promise53ServedOrNot() {
    Kit.refuses(Kit.STATE, Kit.rich(Kit.SERVED), "addSalt", new int[] {-9, -1, 1, 9},
        (x, amount) -> x.addSalt(amount));
    Kit.due("addSalt(1)", Kit.FINISHED.made().addSalt(1), 8);
    Kit.due("addSalt(1), no longer served", Kit.SERVED.then(x -> x.undo()).made().addSalt(1), 8);
  }

  @Sentence({"Stops a running step.", "The step becomes waiting and loses its progress."})
  static void promise54AStoppedStepBeginsAnew() {
    RecipeScheduler x = Kit.NEW.then(y -> y.pass(3), y -> y.stop(0)).made();
    Kit.due("summary", Kit.summary(x), "cut. boil. fry. mix. rest.");
    Kit.due("startsOf(0), which stays", x.startsOf(0), 1);
    Kit.due("cookMinutes(), which stays", x.cookMinutes(), 2);
    x.pass(1);
    Kit.due("summary", Kit.summary(x), "cut3 boil. fry. mix. rest.");
  }

  @Sentence("Returns the remaining time that the step had.")
  static void promise54RemainingTimesFrom1To60() {
    for (int passed = 1; passed <= 60; passed += 59) {
      int minutes = passed;
      Kit.due("stop(0)", Kit.made("recipe 1 0 0 9;step a 60 1;").then(x -> x.pass(minutes)).made()
          .stop(0), 61 - passed);
    }
  }

  @Sentence({A_STEP, NO_STEP})
  static void promise54OtherStepsAreRefused() {
    Kit.due("stop(13)", RUNNING.made().stop(13), 14);
    Kit.due("stop(0)", Kit.made(Kit.steps(1)).then(x -> x.pass(1)).made().stop(0), 1);
    Kit.refuses(Kit.BOUNDS, RUNNING, "stop", Kit.around(14), (x, step) -> x.stop(step));
    Kit.refuses(Kit.BOUNDS, Kit.USED, "stop", Kit.around(5), (x, step) -> x.stop(step));
  }

  @Sentence("Throws `IllegalStateException` if the step is not running")
  static void promise54RunningOrNot() {
    // The four longest of 14 steps run.
    Kit.refuses(Kit.STATE, RUNNING, "stop of a waiting step", new int[] {0, 9},
        (x, step) -> x.stop(step));
    Kit.due("stop() of a running step", RUNNING.made().stop(10), 11);
    Kit.refuses(Kit.STATE, RUNNING.then(x -> x.stop(10)), "stop() once more", x -> x.stop(10));
    Kit.refuses(Kit.STATE, Kit.rich(Kit.FINISHED), "stop of a done step", new int[] {0, 4},
        (x, step) -> x.stop(step));
    Kit.Make burnt = Kit.made(ProgressTermsBoundaries.BURNT_AFTER).then(x -> x.pass(8));
    Kit.refuses(Kit.STATE, Kit.rich(burnt), "stop() of a burnt step", x -> x.stop(1));
    Kit.due("stop() of a step that was burnt", burnt.then(x -> x.pass(3)).made().stop(1), 5);
  }

  @Sentence({"Discards the result of a done step.", "The step becomes waiting."})
  static void promise55ADiscardedStepBeginsAnew() {
    RecipeScheduler x = Kit.FINISHED.then(y -> y.redo(Kit.REST)).made();
    Kit.due("summary", Kit.summary(x), "cut= boil= fry= mix= rest.");
    Kit.due("completions(), which stay", x.completions(), 6);
    x.pass(1);
    Kit.due("summary", Kit.summary(x), "cut= boil= fry= mix= rest4");
  }

  @Sentence("Returns the age that the step had.")
  static void promise55AgesFrom0To30() {
    for (int age = 0; age <= 30; age++) {
      int minutes = 2 + age;
      RecipeScheduler x =
          Kit.made("recipe 1 30 0 9;step a 1 1 hot;").then(y -> y.pass(minutes)).made();
      Kit.due("redo(0)", x.redo(0), age);
      Kit.due("age(0)", x.age(0), 0);
    }
    Kit.due("redo() of a step that is not hot",
        Kit.FINISHED.then(x -> x.pass(99)).made().redo(Kit.REST), 0);
  }

  @Sentence({A_STEP, NO_STEP})
  static void promise55OtherStepsAreRefused() {
    Kit.Make done = Kit.rich(Kit.made(Kit.steps(14)).then(x -> x.pass(100)));
    Kit.due("redo(0)", done.made().redo(0), 0);
    Kit.due("redo(13)", done.made().redo(13), 0);
    Kit.refuses(Kit.BOUNDS, done, "redo", Kit.around(14), (x, step) -> x.redo(step));
    Kit.refuses(Kit.BOUNDS, Kit.USED, "redo", Kit.around(5), (x, step) -> x.redo(step));
  }

  @Sentence("Throws `IllegalStateException` if the step is not done, or it is taken up, or the "
      + "dish was already served")
  static void promise55DoneNotTakenUpAndNotServed() {
    Kit.Make made = Kit.made(ProgressTermsBoundaries.BURNT_AFTER);
    Kit.refuses(Kit.STATE, Kit.rich(made), "redo() of a waiting step", x -> x.redo(0));
    Kit.refuses(Kit.STATE, Kit.rich(made.then(x -> x.pass(1))), "redo() of a running step",
        x -> x.redo(0));
    Kit.refuses(Kit.STATE, Kit.rich(made.then(x -> x.pass(2))), "redo(), b running",
        x -> x.redo(0));
    Kit.refuses(Kit.STATE, Kit.rich(made.then(x -> x.pass(7))), "redo(), b done", x -> x.redo(0));
    Kit.refuses(Kit.STATE, Kit.rich(made.then(x -> x.pass(8))), "redo() of a burnt step",
        x -> x.redo(1));
    Kit.due("redo(), b burnt", made.then(x -> x.pass(8)).made().redo(0), 0);
    Kit.due("redo(), b waiting", made.then(x -> x.pass(2), x -> x.stop(1)).made().redo(0), 0);
    Kit.refuses(Kit.STATE, Kit.rich(Kit.SERVED), "redo(), served", x -> x.redo(Kit.REST));
    Kit.due("redo(), not served", Kit.FINISHED.made().redo(Kit.REST), 0);
  }

  @Sentence("Running steps continue, even if there are more of them than cooks.")
  static void promise56FourStepsContinueWithOneCook() {
    RecipeScheduler x = Kit.made(Kit.steps(14)).then(y -> y.pass(1), y -> y.setCooks(1)).made();
    Kit.due("running", x.countWithStatus(RecipeScheduler.RUNNING), 4);
    x.pass(10);
    Kit.due("running", x.countWithStatus(RecipeScheduler.RUNNING), 4);
    Kit.due("cookMinutes()", x.cookMinutes(), 40);
    x.pass(1);
    Kit.due("running, the first being done", x.countWithStatus(RecipeScheduler.RUNNING), 3);
    x.pass(2);
    Kit.due("running, one being left", x.countWithStatus(RecipeScheduler.RUNNING), 1);
    x.pass(1);
    Kit.due("running, the next having started", x.countWithStatus(RecipeScheduler.RUNNING), 1);
    Kit.due("startsOf(9)", x.startsOf(9), 1);
  }

  @Sentence({"`cooks`: 1 to 4", "Sets the number of cooks.",
      "Returns the previous number of cooks."})
  static void promise56From1To4Cooks() {
    RecipeScheduler x = Kit.fresh();
    int previous = 1;
    for (int cooks : new int[] {4, 1, 1, 2, 3, 4, 4}) {
      Kit.due("setCooks()", x.setCooks(cooks), previous);
      Kit.due("cooks()", x.cooks(), cooks);
      previous = cooks;
    }
    Kit.due("setCooks(4), served", Kit.SERVED.made().setCooks(4), 1);
  }

  @Sentence("Throws `IllegalArgumentException` if cooks is out of range")
  static void promise56OtherCooksAreRefused() {
    Kit.refuses(Kit.ARGUMENT, Kit.USED, "setCooks",
        new int[] {0, 5, -1, 6, Integer.MAX_VALUE, Integer.MIN_VALUE},
        (x, cooks) -> x.setCooks(cooks));
  }

  @Sentence("The remaining time of a running step does not change.")
  static void promise57TheRemainingTimeStays() {
    RecipeScheduler x = Kit.NEW.then(y -> y.pass(2)).made();
    Kit.due("remaining(0)", x.remaining(0), 2);
    x.setDuration(0, 1);
    Kit.due("remaining(0)", x.remaining(0), 2);
    x.setDuration(0, 60);
    Kit.due("remaining(0)", x.remaining(0), 2);
    Kit.due("pass(1)", x.pass(1), 0);
    Kit.due("pass(1)", x.pass(1), 1);
  }

  @Sentence({"`duration`: 1 to 60", "Sets the duration of a step.",
      "Returns the previous duration."})
  static void promise57From1To60Minutes() {
    RecipeScheduler x = Kit.loaded(Kit.steps(14));
    Kit.due("setDuration(0, 60)", x.setDuration(0, 60), 1);
    Kit.due("setDuration(0, 1)", x.setDuration(0, 1), 60);
    Kit.due("setDuration(13, 1)", x.setDuration(13, 1), 14);
    Kit.due("setDuration(13, 1)", x.setDuration(13, 1), 1);
    Kit.due("duration(0)", x.duration(0), 1);
    Kit.due("duration(13)", x.duration(13), 1);
    Kit.due("pathLength(13)", x.pathLength(13), 1);
    Kit.due("setDuration(REST, 60), served", Kit.SERVED.made().setDuration(Kit.REST, 60), 4);
  }

  @Sentence({A_STEP, NO_STEP})
  static void promise57OtherStepsAreRefused() {
    for (int duration : new int[] {0, 1, 60, 61}) {
      Kit.refuses(Kit.BOUNDS, Kit.USED, "setDuration", Kit.around(5),
          (x, step) -> x.setDuration(step, duration));
    }
    Kit.refuses(Kit.BOUNDS, RUNNING, "setDuration", Kit.around(14),
        (x, step) -> x.setDuration(step, 9));
  }

  @Sentence("Throws `IllegalArgumentException` if duration is out of range")
  static void promise57OtherDurationsAreRefused() {
    for (int step : new int[] {0, 4}) {
      Kit.refuses(Kit.ARGUMENT, Kit.USED, "setDuration",
          new int[] {0, 61, -1, 62, Integer.MAX_VALUE, Integer.MIN_VALUE},
          (x, duration) -> x.setDuration(step, duration));
    }
  }

  @Sentence({"Serves the dish.", "Returns the taste of the dish."})
  static void promise58TheLowestAndTheHighestTaste() {
    int[] salts = {-3, 2};
    int[] tastes = {4, 9};
    for (int i = 0; i < 2; i++) {
      int salt = salts[i];
      RecipeScheduler x = Kit.FINISHED.then(y -> y.addSalt(salt)).made();
      Kit.due("serve()", x.serve(), tastes[i]);
      Kit.due("whyNotServed()", x.whyNotServed(), 1);
    }
    Kit.due("serve() with taste 0", Kit.made("recipe 1 0 0 9;step a 1 0;").then(x -> x.pass(2))
        .made().serve(), 0);
  }

  @Sentence("Throws `IllegalStateException` if whyNotServed() does not return 0")
  static void promise58EachReasonNotToServe() {
    Kit.Make[] makes = {Kit.SERVED,
        Kit.made(ProgressTermsBoundaries.BURNT_AFTER).then(x -> x.pass(8)),
        Kit.NEW.then(x -> x.pass(16)), Kit.FINISHED.then(x -> x.addSalt(-4)),
        Kit.FINISHED.then(x -> x.addSalt(3))};
    for (int reason = 1; reason <= 5; reason++) {
      Kit.Make make = Kit.rich(makes[reason - 1]);
      Kit.due("whyNotServed()", make.made().whyNotServed(), reason);
      Kit.refuses(Kit.STATE, make, "serve() with reason " + reason, RecipeScheduler::serve);
    }
    Kit.due("serve()", Kit.rich(Kit.FINISHED).made().serve(), 7);
  }

  @Sentence(SCRIPT_PARSES)
  static void promise59TheBufferIsEmptyAfterAValidScript() {
    for (String script : new String[] {"", " ", "pass 1;", "serve;", "cooks 1;".repeat(30)}) {
      RecipeScheduler x = Kit.fresh();
      Kit.script(x, script);
      Kit.due("the length", Kit.length(x), 0);
      Kit.feed(x, "fry");
      Kit.due("findStep()", x.findStep(), Kit.FRY);
    }
  }

  @Sentence(SCRIPT_PARSES)
  static void promise59TheBufferIsEmptyAfterAFaultyScript() {
    for (String script : new String[] {"?", "pass 1", "stop x;", "cooks 1;".repeat(31)}) {
      RecipeScheduler x = Kit.fresh();
      Kit.feed(x, script);
      Kit.throwsJust(Kit.ARGUMENT, "runScript()", x::runScript);
      Kit.due("the length", Kit.length(x), 0);
      Kit.feed(x, "fry");
      Kit.due("findStep()", x.findStep(), Kit.FRY);
    }
  }

  @Sentence(ONE_CHANGE)
  static void promise59OneChangeForNoCommandOrThirty() {
    for (String script : new String[] {"", "serve;", "pass 1;", "salt 1;".repeat(30),
        "cooks 4;stop cut;cooks 3;"}) {
      Kit.Make make = Kit.NEW.then(x -> x.pass(1), x -> x.stop(0), x -> x.addSalt(2));
      RecipeScheduler x = make.fed(script).then(RecipeScheduler::runScript).made();
      Kit.due("undo() of \"" + script + "\"", x.undo(), 3);
      Kit.due("state after undo()", Kit.state(x), Kit.state(make.made()));
      Kit.due("undo() of the change ahead of it", x.undo(), 2);
      Kit.due("salt()", x.salt(), 0);
    }
  }

  @Sentence(ONE_CHANGE)
  static void promise59AnEmptyScriptPushesOutTheOldestOfSixChanges() {
    RecipeScheduler x = Kit.fresh();
    for (int i = 0; i < 6; i++) {
      x.addSalt(1);
    }
    Kit.due("runScript()", x.runScript(), 0);
    for (int left = 5; left >= 0; left--) {
      Kit.due("undo()", x.undo(), left);
    }
    Kit.due("salt()", x.salt(), 1);
    Kit.throwsJust(Kit.STATE, "undo()", x::undo);
  }

  @Sentence("Returns the number of executed commands.")
  static void promise59FromNoCommandTo30() {
    for (int count : new int[] {0, 1, 2, 29, 30}) {
      RecipeScheduler x = Kit.fresh();
      Kit.due("runScript()", Kit.script(x, "pass 1;".repeat(count)), count);
      Kit.due("minute()", x.minute(), count);
    }
    Kit.due("runScript() up to the last",
        Kit.script(Kit.fresh(), "pass 1;".repeat(29) + "stop cut;"), 29);
    Kit.due("runScript() up to the first", Kit.script(Kit.fresh(), "serve;" + "pass 1;".repeat(29)),
        0);
  }

  @Sentence("Throws `IllegalArgumentException` if the text has an error; in this case only the "
      + "buffer, the error code and the error position change")
  static void promise59AFaultyScriptChangesTheBufferAndTheErrorOnly() {
    Kit.badScript(1, "cooks 4;pass 1;salt 3^");
    Kit.badScript(1, "cooks 4;pass 1;salt 3;^?");
    Kit.badScript(3, "cooks 4;pass 1;salt 3;stop ^cutt;");
    Kit.badScript(5, "salt 1;".repeat(30) + "^salt 1;");
    Kit.due("runScript()", Kit.script(Kit.fresh(), "cooks 4;pass 1;salt 3;"), 3);
  }
}
