/** The four phases of a minute, as pass() shows them: the terms, and promise 52. */
final class MinuteTests {
  private MinuteTests() {}

  private static void after(RecipeScheduler x, int minutes, String due) {
    x.pass(minutes);
    Kit.due("writeSummary() in minute " + x.minute(), Kit.summary(x), due);
  }

  static void promise52TheRecipeOfTheDocument() {
    RecipeScheduler x = Kit.fresh();
    after(x, 1, "cut3 boil. fry. mix. rest.");
    after(x, 1, "cut2 boil. fry. mix. rest.");
    after(x, 2, "cut= boil5 fry2 mix. rest.");
    after(x, 2, "cut= boil3 fry= mix. rest.");
    after(x, 2, "cut= boil1 fry= mix. rest.");
    after(x, 1, "cut= boil= fry2 mix. rest.");
    after(x, 2, "cut= boil= fry= mix2 rest.");
    after(x, 2, "cut= boil= fry= mix= rest4");
    after(x, 3, "cut= boil= fry= mix= rest1");
    after(x, 1, "cut= boil= fry= mix= rest=");
    after(x, 200, "cut= boil= fry= mix= rest=");
  }

  static void promise52Answers() {
    RecipeScheduler x = Kit.fresh();
    Kit.due("pass(3)", x.pass(3), 0);
    Kit.due("pass(1)", x.pass(1), 1);
    Kit.due("pass(7) with fry twice", x.pass(7), 3);
    Kit.due("pass(200)", x.pass(200), 2);
    Kit.due("pass(200)", x.pass(200), 0);
    Kit.due("minute()", x.minute(), 411);
  }

  static void promise52OneByOneAndAtOnceAreTheSame() {
    RecipeScheduler x = Kit.loaded(RecipeTests.LARGE);
    RecipeScheduler y = Kit.loaded(RecipeTests.LARGE);
    for (int i = 0; i < 150; i++) {
      x.pass(1);
    }
    y.pass(150);
    Kit.due("state", Kit.state(x), Kit.state(y));
  }

  static void promise52Throws() {
    RecipeScheduler x = Kit.fresh();
    for (int minutes : new int[] {0, -1, 201, Integer.MAX_VALUE, Integer.MIN_VALUE}) {
      Kit.throwsJust(Kit.ARGUMENT, "pass " + minutes, () -> x.pass(minutes));
    }
    for (int i = 0; i < 49; i++) {
      x.pass(200);
    }
    Kit.throwsJust(Kit.STATE, "pass(200) at 9800", () -> x.pass(200));
    x.pass(198);
    Kit.throwsJust(Kit.STATE, "pass(2) at 9998", () -> x.pass(2));
    Kit.due("pass(1)", x.pass(1), 0);
    Kit.due("minute()", x.minute(), 9999);
    Kit.throwsJust(Kit.STATE, "pass(1) at 9999", () -> x.pass(1));
    Kit.throwsJust(Kit.ARGUMENT, "pass(0) at 9999", () -> x.pass(0));
    Kit.throwsJust(Kit.ARGUMENT, "pass(201) at 9999", () -> x.pass(201));
  }

  static void promise52OnlyTheClockMovesAfterServing() {
    RecipeScheduler x = Kit.loaded("recipe 2 3 0 9;step a 1 1 hot;step b 2 1;");
    x.pass(3);
    Kit.due("age(0)", x.age(0), 1);
    x.serve();
    Kit.due("pass(50)", x.pass(50), 0);
    Kit.due("minute()", x.minute(), 53);
    Kit.due("age(0), which stays", x.age(0), 1);
    Kit.due("burns()", x.burns(), 0);
    x.undo();
    Kit.due("undo()", x.undo(), 1);
    x.pass(2);
    Kit.due("age(0), not being served", x.age(0), 3);
    x.pass(1);
    Kit.due("burns()", x.burns(), 1);
  }

  static void terms1AHoldLimitOfZero() {
    RecipeScheduler x = Kit.loaded("recipe 1 0 0 9;step a 2 1 hot;");
    after(x, 1, "a2");
    after(x, 2, "a=");
    Kit.due("age(0), the minute in which it became done", x.age(0), 0);
    after(x, 1, "a2");
    Kit.due("burns()", x.burns(), 1);
    Kit.due("startsOf(0)", x.startsOf(0), 2);
  }

  static void terms2TheCookOfAStepThatBecomesDoneIsFree() {
    RecipeScheduler x = Kit.loaded("recipe 1 9 0 9;step a 2 1;step b 1 1;");
    after(x, 1, "a2 b.");
    after(x, 2, "a= b1");
  }

  static void terms2AHotStepIsHeldByADoneOrRunningSuccessor() {
    RecipeScheduler x = Kit.loaded("recipe 1 1 0 9;step a 1 1 hot;step b 3 1 after a;");
    after(x, 2, "a= b3");
    after(x, 2, "a= b1");
    Kit.due("age(0)", x.age(0), 0);
    after(x, 50, "a= b=");
    Kit.due("age(0)", x.age(0), 0);
    x.redo(1);
    after(x, 1, "a= b3");
    Kit.due("age(0), b having waited in phase 2", x.age(0), 1);
    x.stop(1);
    after(x, 1, "a1 b.");
    Kit.due("burns()", x.burns(), 1);
  }

  static void terms2PredecessorsComeAheadOfTheirSuccessors() {
    // When a has its turn, b is still done; a minute later b is burnt, and a grows older.
    RecipeScheduler x = Kit.loaded("recipe 1 1 0 9;step a 1 1 hot;step b 1 1 hot after a;"
        + "step c 50 1;");
    after(x, 1, "a. b. c50");
    x.stop(2);
    x.setDuration(2, 1);
    after(x, 3, "a= b= c1");
    x.stop(2);
    x.setDuration(2, 60);
    after(x, 1, "a= b= c60");
    Kit.due("age(0)", x.age(0), 0);
    Kit.due("age(1)", x.age(1), 1);
    after(x, 1, "a= b* c59");
    Kit.due("age(0), b being done at its turn", x.age(0), 0);
    after(x, 1, "a= b* c58");
    Kit.due("age(0)", x.age(0), 1);
    after(x, 1, "a* b* c57");
    Kit.due("burns()", x.burns(), 2);
    Kit.due("whyNotRunning(1)", x.whyNotRunning(1), 2);
  }

  static void terms3ByDescendingPathLengthThenByNumber() {
    RecipeScheduler x = Kit.loaded("recipe 2 9 0 9;step a 3 1;step b 5 1;step c 5 1;step d 5 1;"
        + "step e 1 1;step f 9 1 after e;");
    after(x, 1, "a. b5 c. d. e1 f.");
    after(x, 1, "a. b4 c. d. e= f9");
    after(x, 4, "a. b= c5 d. e= f5");
    after(x, 5, "a3 b= c= d5 e= f=");
  }

  static void terms3TheReadyStepsAreThoseAtTheBeginning() {
    RecipeScheduler x = Kit.loaded("recipe 4 9 0 9;step a 1 1;step b 1 1 after a;");
    after(x, 1, "a1 b.");
    after(x, 1, "a= b1");
    after(x, 1, "a= b=");
  }

  static void terms3AStepTakesThePanThatItsPredecessorHeld() {
    // b frees the pan of a by starting, so that c, which comes later, finds it free.
    RecipeScheduler x = Kit.loaded("recipe 4 9 0 9;pan p 1;step a 2 1 in p;step b 9 1 after a;"
        + "step c 3 1 in p;");
    after(x, 2, "a1 b. c.");
    after(x, 1, "a= b9 c3");
  }

  static void terms3AStepMayBeInTheWayOfItsOwnSuccessor() {
    RecipeScheduler x = Kit.loaded("recipe 4 9 0 9;pan p 1;step a 1 1 in p;"
        + "step b 1 1 in p after a;");
    after(x, 2, "a= b.");
    after(x, 200, "a= b.");
    Kit.due("whyNotRunning(1)", x.whyNotRunning(1), 3);
    Kit.due("blockingStep(1)", x.blockingStep(1), 0);
    Kit.due("minutesToFinish()", x.minutesToFinish(), RecipeScheduler.NONE);
  }

  static void terms3AnUnattendedStepNeedsNoCookButItsPan() {
    RecipeScheduler x = Kit.loaded("recipe 1 9 0 9;pan p 1;step a 9 1;step b 8 1 in p alone;"
        + "step c 7 1 alone;step d 6 1 in p alone;step e 5 1;");
    after(x, 1, "a9 b8 c7 d. e.");
    after(x, 8, "a1 b= c= d6 e.");
    after(x, 1, "a= b= c= d5 e5");
  }

  static void terms3AStepWithoutAFreePanLetsOthersGoAhead() {
    RecipeScheduler x = Kit.loaded("recipe 2 9 0 9;pan p 1;step a 9 1 in p;step b 8 1 in p;"
        + "step c 7 1;");
    after(x, 1, "a9 b. c7");
  }

  static void terms3MoreRunningStepsThanCooks() {
    RecipeScheduler x = Kit.loaded("recipe 3 9 0 9;step a 2 1;step b 4 1;step c 6 1;step d 1 1;");
    after(x, 1, "a2 b4 c6 d.");
    x.setCooks(1);
    after(x, 2, "a= b2 c4 d.");
    after(x, 2, "a= b= c2 d.");
    after(x, 2, "a= b= c= d1");
    Kit.due("cookMinutes()", x.cookMinutes(), 2 + 4 + 6);
  }

  static void terms3ABurntStepKeepsNoPan() {
    RecipeScheduler x = Kit.loaded("recipe 1 0 0 9;pan p 1;step a 5 1 in p hot;step b 5 2;"
        + "step c 1 1 alone after a b;step d 1 1 in p alone;");
    after(x, 1, "a5 b. c. d.");
    after(x, 5, "a= b5 c. d.");
    after(x, 1, "a* b4 c. d1");
  }
}
