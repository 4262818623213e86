/** Promises 42 to 51 at their limits: what will be if only minutes pass. */
final class ForecastBoundaries {
  private static final int NONE = RecipeScheduler.NONE;
  private static final String A_STEP = "`step`: number of a step";
  private static final String NO_STEP =
      "Throws `IndexOutOfBoundsException` if the step does not exist";
  private static final String FINISH = "Returns the number of minutes; 0 if all steps are done; "
      + "NONE if more than 500 minutes are needed.";
  private static final String BURN = "Returns the least number of minutes, from 1, after which the "
      + "step has become burnt once more; NONE if more than 500 minutes are needed.";
  private static final String SALT = "Returns the number with the smallest absolute value that "
      + "moves the sum of all taste values (of steps that are done or not) and the salt into the "
      + "allowed range; 0 if it is already in range.";
  private static final String SHORTER = "The comparison uses minutesToFinish() as it would be if "
      + "the duration of the step was shorter by 1 (a duration of 1 stays, and the remaining time "
      + "stays); NONE counts as 501.";
  private static final String BOTTLENECK =
      "Returns the step that is not done and leads to the smallest result; the lowest number wins "
      + "a tie.";
  /** The pan that a holds for b is the one that b needs. */
  private static final String STUCK =
      "recipe 4 9 0 9;pan p 1;step a 1 1 in p;step b 1 1 in p after a;";

  private ForecastBoundaries() {}

  private static String row480(int last) {
    return Kit.row(60, 60, 60, 60, 60, 60, 60, 60, last);
  }

  @Sentence({"Returns when all steps will be done.", FINISH})
  static void promise42ZeroOnlyIfAllStepsAreDone() {
    RecipeScheduler x = Kit.NEW.then(y -> y.pass(16)).made();
    Kit.due("minutesToFinish()", x.minutesToFinish(), 1);
    x.pass(1);
    Kit.due("minutesToFinish()", x.minutesToFinish(), 0);
    RecipeScheduler hot = Kit.made("recipe 1 0 0 9;step a 1 1 hot;").then(y -> y.pass(2)).made();
    Kit.due("minutesToFinish(), though it will burn", hot.minutesToFinish(), 0);
    hot.pass(1);
    Kit.due("minutesToFinish(), burnt and started again", hot.minutesToFinish(), 1);
    Kit.due("minutesToFinish(), served", Kit.SERVED.made().minutesToFinish(), 0);
  }

  @Sentence(FINISH)
  static void promise42FiveHundredMinutesAndNotOneMore() {
    Kit.due("499", Kit.loaded(row480(18)).minutesToFinish(), 499);
    Kit.due("500", Kit.loaded(row480(19)).minutesToFinish(), 500);
    Kit.due("501", Kit.loaded(row480(20)).minutesToFinish(), NONE);
    RecipeScheduler x = Kit.loaded(row480(20));
    x.pass(1);
    Kit.due("a minute later", x.minutesToFinish(), 500);
    Kit.due("never", Kit.loaded(STUCK).minutesToFinish(), NONE);
  }

  @Sentence({"`minutes`: 0 to 500", "Returns the status after so many minutes."})
  static void promise43From0To500Minutes() {
    RecipeScheduler x = Kit.loaded(row480(19));
    Kit.due("statusAfter(0, 0)", x.statusAfter(0, 0), RecipeScheduler.WAITING);
    Kit.due("statusAfter(0, 1)", x.statusAfter(0, 1), RecipeScheduler.RUNNING);
    Kit.due("statusAfter(8, 480)", x.statusAfter(8, 480), RecipeScheduler.WAITING);
    Kit.due("statusAfter(8, 481)", x.statusAfter(8, 481), RecipeScheduler.RUNNING);
    Kit.due("statusAfter(8, 499)", x.statusAfter(8, 499), RecipeScheduler.RUNNING);
    Kit.due("statusAfter(8, 500)", x.statusAfter(8, 500), RecipeScheduler.DONE);
    RecipeScheduler burnt = Kit.loaded(ProgressTermsBoundaries.BURNT_AFTER);
    Kit.due("statusAfter(1, 7)", burnt.statusAfter(1, 7), RecipeScheduler.DONE);
    Kit.due("statusAfter(1, 8)", burnt.statusAfter(1, 8), RecipeScheduler.BURNT);
  }

  @Sentence({A_STEP, NO_STEP})
  static void promise43OtherStepsAreRefused() {
    Kit.answersStepsThatExist("statusAfter 500", (x, step) -> x.statusAfter(step, 500),
        step -> RecipeScheduler.DONE);
    Kit.refuses(Kit.BOUNDS, Kit.USED, "statusAfter", Kit.around(5),
        (x, step) -> x.statusAfter(step, 501));
  }

  @Sentence("Throws `IllegalArgumentException` if minutes is out of range")
  static void promise43OtherMinutesAreRefused() {
    Kit.refuses(Kit.ARGUMENT, Kit.USED, "statusAfter",
        new int[] {-1, 501, 502, Integer.MAX_VALUE, Integer.MIN_VALUE},
        (x, minutes) -> x.statusAfter(4, minutes));
  }

  @Sentence({"Returns when a step will burn.", BURN})
  static void promise44FromTheNextMinuteOn() {
    RecipeScheduler x = Kit.loaded("recipe 1 0 0 9;step a 1 1 hot;");
    int[] due = {3, 2, 1, 2, 1, 2};
    for (int minute = 0; minute < due.length; minute++) {
      Kit.due("minutesToBurn(0) in minute " + minute, x.minutesToBurn(0), due[minute]);
      x.pass(1);
    }
    RecipeScheduler burnt =
        Kit.made(ProgressTermsBoundaries.BURNT_AFTER).then(y -> y.pass(8)).made();
    Kit.due("minutesToBurn(1), burnt, once more", burnt.minutesToBurn(1), 17 - 8);
    Kit.due("minutesToBurn(0), not hot", burnt.minutesToBurn(0), NONE);
    Kit.due("minutesToBurn(FRY), served", Kit.SERVED.made().minutesToBurn(Kit.FRY), NONE);
  }

  @Sentence(BURN)
  static void promise44FiveHundredMinutesAndNotOneMore() {
    // The last step starts in minute 461 and burns 31 minutes after its end.
    String setup = Kit.row(60, 60, 60, 60, 60, 60, 60, 40) + "step last ";
    Kit.due("499", Kit.loaded(setup + "7 1 hot;").minutesToBurn(8), 499);
    Kit.due("500", Kit.loaded(setup + "8 1 hot;").minutesToBurn(8), 500);
    Kit.due("501", Kit.loaded(setup + "9 1 hot;").minutesToBurn(8), NONE);
  }

  @Sentence({A_STEP, NO_STEP})
  static void promise44OtherStepsAreRefused() {
    Kit.answersStepsThatExist("minutesToBurn", (x, step) -> x.minutesToBurn(step), step -> NONE);
  }

  @Sentence({"`cooks`: 1 to 4", "Returns when all steps would be done with another number of cooks "
      + "from now on."})
  static void promise45From1To4Cooks() {
    RecipeScheduler x = Kit.loaded("recipe 2 9 0 9;step a 6 1;step b 5 1;step c 4 1;step d 3 1;");
    int[] due = {19, 10, 8, 7};
    for (int cooks = 1; cooks <= 4; cooks++) {
      Kit.due("minutesWithCooks " + cooks, x.minutesWithCooks(cooks), due[cooks - 1]);
    }
    Kit.due("cooks()", x.cooks(), 2);
    x.setCooks(4);
    x.pass(1);
    Kit.due("minutesWithCooks(1), all running already", x.minutesWithCooks(1), 6);
  }

  @Sentence("Returns the number of minutes as for minutesToFinish().")
  static void promise45ZeroAndFiveHundredAndNone() {
    Kit.due("all done", Kit.FINISHED.made().minutesWithCooks(1), 0);
    Kit.due("500", Kit.loaded(row480(19)).minutesWithCooks(1), 500);
    Kit.due("501", Kit.loaded(row480(20)).minutesWithCooks(1), NONE);
    Kit.due("by two cooks", Kit.loaded(row480(20)).minutesWithCooks(2), 261);
    Kit.due("never", Kit.loaded(STUCK).minutesWithCooks(4), NONE);
  }

  @Sentence("Throws `IllegalArgumentException` if cooks is out of range")
  static void promise45OtherCooksAreRefused() {
    Kit.refuses(Kit.ARGUMENT, Kit.USED, "minutesWithCooks",
        new int[] {0, 5, -1, 6, Integer.MAX_VALUE, Integer.MIN_VALUE},
        (x, cooks) -> x.minutesWithCooks(cooks));
  }

  @Sentence({"Returns the least number of cooks that is as good as 4 cooks.",
      "Returns the least number of cooks for which minutesWithCooks() equals its result for 4 "
      + "cooks."})
  static void promise46From1To4Cooks() {
    String[] setups = {"step a 9 1;", "step a 9 1;step b 9 1;", "step a 9 1;step b 9 1;step c 9 1;",
        "step a 9 1;step b 9 1;step c 9 1;step d 9 1;",
        "step a 9 1;step b 9 1;step c 9 1;step d 9 1;step e 9 1 alone;"};
    int[] due = {1, 2, 3, 4, 4};
    for (int i = 0; i < setups.length; i++) {
      Kit.due("fewestCooks() of " + setups[i],
          Kit.loaded("recipe 2 9 0 9;" + setups[i]).fewestCooks(), due[i]);
    }
    Kit.due("all done", Kit.FINISHED.made().fewestCooks(), 1);
    Kit.due("never, whoever cooks", Kit.loaded(STUCK).fewestCooks(), 1);
    Kit.due("more than 500 minutes by one cook", Kit.loaded(row480(20)).fewestCooks(), 4);
  }

  @Sentence(SHORTER)
  static void promise47ADurationOf1Stays() {
    RecipeScheduler x = Kit.loaded("recipe 1 9 0 9;step a 1 1;step b 2 1;");
    Kit.due("bottleneck(), a being as short as can be", x.bottleneck(), 1);
    x.setDuration(0, 2);
    Kit.due("bottleneck(), both being shorter", x.bottleneck(), 0);
    x.setDuration(0, 1);
    x.setDuration(1, 1);
    Kit.due("bottleneck(), neither being shorter", x.bottleneck(), 0);
    Kit.due("bottleneck(), neither b nor c being enough",
        Kit.loaded("recipe 4 9 0 9;step a 1 1;step b 5 1;step c 5 1;").bottleneck(), 0);
  }

  @Sentence(SHORTER)
  static void promise47TheRemainingTimeStays() {
    RecipeScheduler x = Kit.loaded("recipe 4 9 0 9;step a 9 1;step b 2 1 after a;");
    Kit.due("bottleneck(), both being shorter", x.bottleneck(), 0);
    x.pass(1);
    Kit.due("bottleneck(), a running", x.bottleneck(), 1);
    x.pass(9);
    Kit.due("bottleneck(), b running alone", x.bottleneck(), 1);
  }

  @Sentence(SHORTER)
  static void promise47NoneCountsAs501() {
    RecipeScheduler x = Kit.loaded(Kit.row(1, 60, 60, 60, 60, 60, 60, 60, 60, 19));
    Kit.due("minutesToFinish()", x.minutesToFinish(), NONE);
    Kit.due("bottleneck(), 500 with b", x.bottleneck(), 1);
    x.setDuration(9, 20);
    Kit.due("bottleneck(), 501 with each", x.bottleneck(), 0);
    Kit.due("bottleneck(), never", Kit.loaded(STUCK).bottleneck(), 0);
  }

  @Sentence(BOTTLENECK)
  static void promise47NotDoneAndTheLowestNumber() {
    RecipeScheduler x = Kit.loaded("recipe 1 9 0 9;step a 5 1;step b 5 1;step c 5 1;");
    Kit.due("bottleneck() of three", x.bottleneck(), 0);
    x.pass(6);
    Kit.due("bottleneck(), a done, b running", x.bottleneck(), 2);
    x.pass(5);
    Kit.due("bottleneck(), c running", x.bottleneck(), 2);
    RecipeScheduler stuck = Kit.made(STUCK).then(y -> y.pass(9)).made();
    Kit.due("bottleneck(), a done", stuck.bottleneck(), 1);
  }

  @Sentence("Throws `NoSuchElementException` if all steps are done")
  static void promise47AllOrAllButOneAreDone() {
    Kit.due("bottleneck()", Kit.NEW.then(x -> x.pass(16)).made().bottleneck(), Kit.REST);
    Kit.refuses(Kit.ELEMENT, Kit.rich(Kit.FINISHED), "bottleneck()", RecipeScheduler::bottleneck);
    Kit.refuses(Kit.ELEMENT, Kit.rich(Kit.SERVED), "bottleneck()", RecipeScheduler::bottleneck);
    Kit.due("bottleneck()", Kit.FINISHED.then(x -> x.redo(Kit.REST)).made().bottleneck(), Kit.REST);
  }

  @Sentence(SALT)
  static void promise48OnBothSidesOfTheRange() {
    int[] salts = {-9, -4, -3, -2, 1, 2, 3, 9};
    int[] due = {6, 1, 0, 0, 0, 0, -1, -7};
    for (int i = 0; i < salts.length; i++) {
      int salt = salts[i];
      Kit.due("saltNeeded() with salt " + salt,
          Kit.NEW.then(x -> x.addSalt(salt)).made().saltNeeded(), due[i]);
      Kit.due("saltNeeded() with all steps done and salt " + salt,
          Kit.FINISHED.then(x -> x.addSalt(salt)).made().saltNeeded(), due[i]);
    }
  }

  @Sentence(SALT)
  static void promise48ARangeOfOneTaste() {
    Kit.due("at it", Kit.loaded("recipe 1 0 5 5;step a 1 5;").saltNeeded(), 0);
    Kit.due("below it", Kit.loaded("recipe 1 0 5 5;step a 1 4;").saltNeeded(), 1);
    Kit.due("above it", Kit.loaded("recipe 1 0 5 5;step a 1 6;").saltNeeded(), -1);
    Kit.due("at most", Kit.loaded("recipe 1 0 99 99;step a 1 0;").saltNeeded(), 99);
  }

  @Sentence("Returns the number of done steps divided by the number of steps, both converted to "
      + "float first.")
  static void promise49From0To1() {
    Kit.due("doneShare() of none", Kit.fresh().doneShare(), 0.0f);
    Kit.due("doneShare() of all", Kit.FINISHED.made().doneShare(), 1.0f);
    Kit.due("doneShare() of one", Kit.made("recipe 1 9 0 9;step a 1 1;").then(x -> x.pass(2)).made()
        .doneShare(), 1.0f);
    RecipeScheduler x = Kit.loaded("recipe 1 9 0 9;step a 1 1;step b 1 1;step c 1 1;");
    float[] due = {0.0f, 0.0f, 1.0f / 3.0f, 2.0f / 3.0f, 1.0f};
    for (int minute = 0; minute < due.length; minute++) {
      Kit.due("doneShare() in minute " + minute, x.doneShare(), due[minute]);
      x.pass(1);
    }
    Kit.due("a quotient of floats", due[2] == 1.0 / 3.0, false);
  }

  @Sentence("Returns the sum of all durations divided by the number of steps, both converted to "
      + "double first.")
  static void promise50From1To60() {
    Kit.due("meanDuration()", Kit.loaded(Kit.row(1)).meanDuration(), 1.0);
    Kit.due("meanDuration()", Kit.loaded(Kit.row(60, 60, 60)).meanDuration(), 60.0);
    Kit.due("meanDuration()", Kit.loaded(Kit.row(1, 1, 2)).meanDuration(), 4.0 / 3.0);
    Kit.due("meanDuration()", Kit.loaded(Kit.steps(14)).meanDuration(), 7.5);
    RecipeScheduler x = Kit.loaded(Kit.steps(7));
    x.setDuration(6, 6);
    Kit.due("meanDuration()", x.meanDuration(), 27.0 / 7.0);
  }

  @Sentence("Returns starts() minus completions() minus the number of running steps minus the "
      + "number of successful calls of stop() (including script commands) since the latest setup, "
      + "plus the number of running steps of which a predecessor has never been done; the result "
      + "is always 0.")
  static void promise51AlwaysZero() {
    Kit.Act[] changes = {x -> x.pass(4), x -> x.stop(Kit.FRY), x -> x.pass(1), x -> x.stop(Kit.FRY),
        RecipeScheduler::undo, x -> Kit.script(x, "stop fry;pass 1;stop fry;stop cut;"),
        x -> x.save(0), x -> x.pass(20), x -> x.redo(Kit.REST), x -> x.redo(Kit.MIX),
        x -> x.pass(1), x -> x.stop(Kit.MIX), x -> Kit.refused(x, y -> y.stop(Kit.MIX)),
        x -> x.restore(0), x -> x.pass(60), x -> Kit.load(x, Kit.DEFAULT), x -> x.pass(2)};
    RecipeScheduler x = Kit.fresh();
    Kit.due("inconsistencies()", x.inconsistencies(), 0);
    for (int i = 0; i < changes.length; i++) {
      changes[i].on(x);
      Kit.due("inconsistencies() after change " + i, x.inconsistencies(), 0);
    }
  }
}
