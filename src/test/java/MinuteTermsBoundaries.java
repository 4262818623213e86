/** The term One minute: each sentence of the four phases at its limits. */
final class MinuteTermsBoundaries {
  private static final String AGES = "The age of every hot step that is done and not taken up "
      + "increases by 1, in the order of the step numbers.";
  private static final String DESCENDING = "The steps that are ready at the beginning of this "
      + "phase are visited by descending path length.";
  private static final String STARTS = "A visited step starts if it is unattended or the number of "
      + "running steps that are not unattended is less than the number of cooks, and if it needs "
      + "no pan type or its pan type has a free pan.";
  private static final String SERVED = "After the dish was served, only phase 4 takes place.";

  private MinuteTermsBoundaries() {}

  private static RecipeScheduler after(int minutes, String setup) {
    RecipeScheduler x = Kit.loaded(setup);
    x.pass(minutes);
    return x;
  }

  private static void next(RecipeScheduler x, String due) {
    x.pass(1);
    Kit.due("writeSummary() in minute " + x.minute(), Kit.summary(x), due);
  }

  @Sentence("The remaining time of every running step decreases by 1, in the order of the step "
      + "numbers.")
  static void termsEveryRunningStepAndNoOtherGoesOn() {
    RecipeScheduler x = Kit.loaded("recipe 3 9 0 9;step a 60 1;step b 2 1;step c 60 1 alone;"
        + "step d 9 1;step e 1 1;");
    next(x, "a60 b2 c60 d9 e.");
    next(x, "a59 b1 c59 d8 e.");
    next(x, "a58 b= c58 d7 e1");
    next(x, "a57 b= c57 d6 e=");
  }

  @Sentence("A step whose remaining time reaches 0 becomes done.")
  static void termsARemainingTimeOf1LeadsToDoneAnd2DoesNot() {
    RecipeScheduler x = after(1, "recipe 2 9 0 9;step a 1 1;step b 2 1;");
    Kit.due("at first", Kit.summary(x), "a1 b2");
    Kit.due("pass(1)", x.pass(1), 1);
    Kit.due("then", Kit.summary(x), "a= b1");
    Kit.due("pass(1)", x.pass(1), 1);
    Kit.due("then", Kit.summary(x), "a= b=");
  }

  @Sentence(AGES)
  static void termsOnlyHotStepsGrowOld() {
    RecipeScheduler x = after(3, "recipe 2 30 0 9;step a 1 1 hot;step b 1 1;");
    Kit.due("age(0), hot", x.age(0), 1);
    Kit.due("age(1), not hot", x.age(1), 0);
    x.pass(29);
    Kit.due("age(0), hot", x.age(0), 30);
    Kit.due("age(1), not hot", x.age(1), 0);
  }

  @Sentence(AGES)
  static void termsOnlyStepsThatAreNotTakenUpGrowOld() {
    RecipeScheduler x = after(3, "recipe 2 30 0 9;step a 1 1 hot;step b 1 1 hot;"
        + "step c 60 1 after b;");
    Kit.due("c runs", Kit.summary(x), "a= b= c59");
    Kit.due("age(0)", x.age(0), 1);
    Kit.due("age(1), taken up", x.age(1), 0);
    x.stop(2);
    // Phase 2 comes ahead of phase 3, in which c starts again.
    x.pass(1);
    Kit.due("age(1), not taken up for one minute", x.age(1), 1);
    x.pass(1);
    Kit.due("age(1), taken up again", x.age(1), 1);
  }

  @Sentence(AGES)
  static void termsOnlyDoneStepsGrowOld() {
    RecipeScheduler x = after(9, "recipe 1 30 0 9;step a 9 1 hot;step b 9 1 hot;");
    Kit.due("one runs, one waits", Kit.summary(x), "a1 b.");
    Kit.due("age(0)", x.age(0), 0);
    x.pass(1);
    Kit.due("one is done, one runs", Kit.summary(x), "a= b9");
    x.pass(1);
    Kit.due("age(0)", x.age(0), 1);
    Kit.due("age(1)", x.age(1), 0);
  }

  @Sentence("Whether a step is taken up is determined when its turn comes.")
  static void termsASuccessorThatStartsLaterInTheMinuteComesTooLate() {
    RecipeScheduler x = after(2, "recipe 1 1 0 9;step a 1 1 hot;step b 9 1 after a;");
    x.stop(1);
    next(x, "a= b9");
    Kit.due("age(0)", x.age(0), 1);
    x.stop(1);
    next(x, "a1 b.");
    Kit.due("burns()", x.burns(), 1);
  }

  @Sentence("Whether a step is taken up is determined when its turn comes.")
  static void termsAStepIsStillTakenUpInTheMinuteInWhichItsSuccessorBurns() {
    RecipeScheduler x = Kit.loaded("recipe 1 1 0 9;step a 1 1 hot;step b 1 1 hot after a;"
        + "step c 50 1;");
    x.setDuration(2, 1);
    x.pass(3);
    Kit.due("a and b first, as the path of a is longer", Kit.summary(x), "a= b= c1");
    x.stop(2);
    x.setDuration(2, 60);
    next(x, "a= b= c60");
    Kit.due("age(1)", x.age(1), 1);
    next(x, "a= b* c59");
    Kit.due("age(0), b being done at its turn", x.age(0), 0);
    next(x, "a= b* c58");
    Kit.due("age(0), b being burnt at its turn", x.age(0), 1);
  }

  @Sentence("Steps that became done in phase 1 of this minute are skipped.")
  static void termsTheMinuteThatEndsAStepDoesNotAgeIt() {
    RecipeScheduler x = after(2, "recipe 1 0 0 9;step a 1 1 hot;");
    Kit.due("status(0)", x.status(0), RecipeScheduler.DONE);
    Kit.due("age(0)", x.age(0), 0);
    Kit.due("burns()", x.burns(), 0);
    x.pass(1);
    Kit.due("burns() a minute later", x.burns(), 1);
  }

  @Sentence("A step whose age exceeds the hold limit becomes burnt.")
  static void termsAnAgeOfTheHoldLimitDoesNotBurnAndOneMoreDoes() {
    for (int hold : new int[] {0, 1, 2, 29, 30}) {
      RecipeScheduler x = after(2 + hold, "recipe 1 " + hold + " 0 9;step a 1 1 hot;");
      Kit.due("age(0)", x.age(0), hold);
      Kit.due("status(0)", x.status(0), RecipeScheduler.DONE);
      Kit.due("burns()", x.burns(), 0);
      x.pass(1);
      Kit.due("burns()", x.burns(), 1);
      Kit.due("status(0), started again at once", x.status(0), RecipeScheduler.RUNNING);
      Kit.due("age(0)", x.age(0), 0);
    }
  }

  @Sentence(DESCENDING)
  static void termsTheLongerPathComesFirst() {
    next(Kit.loaded("recipe 1 9 0 9;step a 5 1;step b 6 1;"), "a. b6");
    next(Kit.loaded("recipe 1 9 0 9;step a 6 1;step b 5 1;"), "a6 b.");
    next(Kit.loaded("recipe 1 9 0 9;step a 9 1;step b 1 1;step c 9 1 after b;"), "a. b1 c.");
    next(Kit.loaded("recipe 1 9 0 9;step a 9 1;step b 1 1;step c 7 1 after b;"), "a9 b. c.");
  }

  @Sentence(DESCENDING)
  static void termsReadyAtTheBeginningOfPhase3() {
    // What phase 1 or phase 2 of the same minute makes ready starts at once.
    RecipeScheduler x = Kit.loaded("recipe 4 0 0 9;step a 1 1 hot;step b 2 1;step c 3 1 after b;"
        + "step d 1 1 after a c;");
    next(x, "a1 b2 c. d.");
    next(x, "a= b1 c. d.");
    next(x, "a1 b= c3 d.");
  }

  @Sentence("Steps with equal path lengths are visited by ascending number.")
  static void termsOfEqualPathsTheLowerNumberComesFirst() {
    next(Kit.loaded("recipe 1 9 0 9;step a 4 1;step b 5 1;step c 5 1;step d 5 1;"),
        "a. b5 c. d.");
    next(Kit.loaded("recipe 2 9 0 9;step a 4 1;step b 1 1;step c 5 1;step d 4 1 after b;"),
        "a. b1 c5 d.");
    RecipeScheduler x = after(1, Kit.steps(14).replaceAll(" \\d+ \\d;", " 7 1;"));
    for (int step = 0; step < 14; step++) {
      Kit.due("status " + step, x.status(step), step < 4 ? RecipeScheduler.RUNNING
          : RecipeScheduler.WAITING);
    }
  }

  @Sentence(STARTS)
  static void termsFewerRunningStepsThanCooks() {
    String setup = "recipe 3 9 0 9;step a 9 1;step b 9 1;step c 9 1;step d 5 1;step e 4 1 alone;";
    Kit.Make three = Kit.made(setup).then(x -> x.pass(1));
    Kit.due("as many as cooks", Kit.summary(three.made()), "a9 b9 c9 d. e4");
    next(three.then(x -> x.setCooks(2)).made(), "a8 b8 c8 d. e3");
    next(three.then(x -> x.setCooks(4)).made(), "a8 b8 c8 d5 e3");
    next(three.then(x -> x.stop(1), x -> x.setCooks(2)).made(), "a8 b. c8 d. e3");
    next(three.then(x -> x.stop(1), x -> x.setDuration(1, 1)).made(), "a8 b. c8 d5 e3");
  }

  @Sentence(STARTS)
  static void termsAnUnattendedStepStartsWhateverTheCooksDo() {
    RecipeScheduler x = Kit.loaded("recipe 1 9 0 9;step a 9 1;step b 8 1 alone;step c 7 1 alone;"
        + "step d 6 1;");
    next(x, "a9 b8 c7 d.");
  }

  @Sentence(STARTS)
  static void termsAStepNeedsAFreePanOrNoPanType() {
    String setup = "recipe 4 9 0 9;pan p 2;pan q 1;step a 9 1 in p;step b 8 1 in p;"
        + "step c 7 1 in p alone;step d 6 1;step e 5 1 in q;step f 4 1 in q alone;";
    RecipeScheduler x = Kit.loaded(setup);
    next(x, "a9 b8 c. d6 e5 f.");
    x.stop(1);
    x.setDuration(1, 1);
    next(x, "a8 b. c7 d5 e4 f.");
  }

  @Sentence("A step that starts becomes running, and its remaining time is its duration.")
  static void termsAStartGivesTheWholeDuration() {
    RecipeScheduler x = after(1, "recipe 2 9 0 9;step a 1 1;step b 60 1;");
    Kit.due("remaining(0)", x.remaining(0), 1);
    Kit.due("remaining(1)", x.remaining(1), 60);
    x.pass(30);
    x.stop(1);
    x.setDuration(1, 59);
    x.pass(1);
    Kit.due("status(1)", x.status(1), RecipeScheduler.RUNNING);
    Kit.due("remaining(1)", x.remaining(1), 59);
  }

  @Sentence("The current minute increases by 1.")
  static void termsEveryMinuteCountsOnce() {
    RecipeScheduler x = Kit.fresh();
    x.pass(1);
    Kit.due("minute()", x.minute(), 1);
    x.pass(200);
    Kit.due("minute()", x.minute(), 201);
    RecipeScheduler y = Kit.SERVED.made();
    y.pass(1);
    Kit.due("minute(), served", y.minute(), 18);
  }

  @Sentence("It is 0 at first and at most 9999.")
  static void termsTheMinuteFrom0To9999() {
    Kit.due("minute()", Kit.fresh().minute(), 0);
    Kit.Make late = Kit.atMinute(9998, Kit.NEW);
    Kit.due("minute()", late.then(x -> x.pass(1)).made().minute(), 9999);
    Kit.refuses(Kit.STATE, late, "pass(2) at 9998", x -> x.pass(2));
    Kit.refuses(Kit.STATE, late.then(x -> x.pass(1)), "pass(1) at 9999", x -> x.pass(1));
    RecipeScheduler y = late.made();
    Kit.load(y, Kit.DEFAULT);
    Kit.due("minute() after load()", y.minute(), 0);
  }

  @Sentence(SERVED)
  static void termsAServedDishDoesNotAge() {
    Kit.Make done = Kit.made("recipe 1 1 0 9;step a 1 1 hot;").then(x -> x.pass(3));
    RecipeScheduler x = done.then(RecipeScheduler::serve).made();
    Kit.due("pass(200)", x.pass(200), 0);
    Kit.due("summary", Kit.summary(x), "a=");
    Kit.due("age(0)", x.age(0), 1);
    Kit.due("burns()", x.burns(), 0);
    Kit.due("cookMinutes()", x.cookMinutes(), 1);
    Kit.due("starts()", x.starts(), 1);
    Kit.due("minute()", x.minute(), 203);
    RecipeScheduler y = done.made();
    y.pass(1);
    Kit.due("burns(), not being served", y.burns(), 1);
  }

  @Sentence(SERVED)
  static void termsTheMinuteInWhichTheDishIsServedEndsTheOtherPhases() {
    RecipeScheduler x = Kit.made("recipe 1 0 0 9;step a 1 1 hot;").then(y -> y.pass(2)).made();
    Kit.script(x, "serve;pass 1;");
    Kit.due("summary", Kit.summary(x), "a=");
    Kit.due("minutesToBurn(0)", x.minutesToBurn(0), RecipeScheduler.NONE);
    Kit.due("statusAfter(0, 500)", x.statusAfter(0, 500), RecipeScheduler.DONE);
  }
}
