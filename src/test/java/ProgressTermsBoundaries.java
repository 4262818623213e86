/** The terms Status, Resources and Taste at their limits. */
final class ProgressTermsBoundaries {
  private static final int NONE = RecipeScheduler.NONE;
  /** The only cook works on c when b burns, so that b stays burnt from minute 8 to minute 10. */
  static final String BURNT_AFTER =
      "recipe 1 0 0 99;pan p 1;step a 1 1 in p;step b 5 2 hot after a;step c 4 3;";
  private static final String TAKEN_UP =
      "A done step is taken up if at least one of its successors is running or done.";
  private static final String HOLDS_PAN = "A done step that needs a pan type still occupies its "
      + "pan while at least one of its successors is waiting or burnt.";
  private static final String READY =
      "A step is ready if it is waiting or burnt and all of its predecessors are done.";
  private static final String SERVING = "The dish can be served if all steps are done and the "
      + "taste is within the allowed range.";

  private ProgressTermsBoundaries() {}

  private static RecipeScheduler after(int minutes, String setup) {
    RecipeScheduler x = Kit.loaded(setup);
    x.pass(minutes);
    return x;
  }

  @Sentence("A step is waiting, running, done or burnt.")
  static void termsAStepHasOneOfFourStatuses() {
    RecipeScheduler x = Kit.loaded(BURNT_AFTER);
    boolean[] seen = new boolean[4];
    for (int minute = 0; minute < 20; minute++) {
      int counted = 0;
      for (int status = 0; status < 4; status++) {
        counted += x.countWithStatus(status);
        seen[status] |= x.countWithStatus(status) > 0;
      }
      Kit.due("steps with a status", counted, 3);
      x.pass(1);
    }
    Kit.due("all were seen", seen[0] && seen[1] && seen[2] && seen[3], true);
  }

  @Sentence("All steps are waiting at first.")
  static void termsAllStepsWaitAtFirst() {
    RecipeScheduler x = Kit.fresh();
    Kit.due("waiting", x.countWithStatus(RecipeScheduler.WAITING), 5);
    x.pass(8);
    Kit.due("waiting", x.countWithStatus(RecipeScheduler.WAITING), 2);
    Kit.load(x, Kit.steps(14));
    Kit.due("waiting", x.countWithStatus(RecipeScheduler.WAITING), 14);
    x.pass(1);
    Kit.due("waiting", x.countWithStatus(RecipeScheduler.WAITING), 10);
  }

  @Sentence("A running step has a remaining time in minutes.")
  static void termsTheRemainingTimeIsNever0WhileAStepRuns() {
    RecipeScheduler x = Kit.loaded("recipe 1 0 0 9;step a 3 1;");
    int[] due = {0, 3, 2, 1, 0, 0};
    for (int minute = 0; minute < due.length; minute++) {
      Kit.due("remaining(0)", x.remaining(0), due[minute]);
      Kit.due("running", x.status(0) == RecipeScheduler.RUNNING, due[minute] > 0);
      x.pass(1);
    }
  }

  @Sentence("A done step has an age in minutes, which is 0 when the step becomes done.")
  static void termsTheAgeBeginsWith0EveryTime() {
    RecipeScheduler x = Kit.loaded("recipe 1 2 0 9;step a 1 1 hot;");
    x.pass(2);
    Kit.due("age(0), just done", x.age(0), 0);
    x.pass(2);
    Kit.due("age(0)", x.age(0), 2);
    x.pass(2);
    Kit.due("burns()", x.burns(), 1);
    Kit.due("status(0)", x.status(0), RecipeScheduler.DONE);
    Kit.due("age(0), done again after burning", x.age(0), 0);
    x.pass(1);
    Kit.due("age(0)", x.age(0), 1);
    x.redo(0);
    x.pass(2);
    Kit.due("status(0)", x.status(0), RecipeScheduler.DONE);
    Kit.due("age(0), done again after redo()", x.age(0), 0);
  }

  @Sentence(TAKEN_UP)
  static void termsNoSuccessorTakesNothingUp() {
    RecipeScheduler x = after(2, "recipe 1 0 0 9;step a 1 1;step b 1 1;");
    Kit.due("isTakenUp(0)", x.isTakenUp(0), false);
  }

  @Sentence(TAKEN_UP)
  static void termsOneOfTwoSuccessorsIsEnough() {
    RecipeScheduler x = after(2, "recipe 1 9 0 9;step a 1 1;step b 3 1 after a;"
        + "step c 3 1 after a;");
    Kit.due("b runs", Kit.summary(x), "a= b3 c.");
    Kit.due("isTakenUp(0)", x.isTakenUp(0), true);
    x.stop(1);
    Kit.due("both wait", Kit.summary(x), "a= b. c.");
    Kit.due("isTakenUp(0)", x.isTakenUp(0), false);
    x.pass(4);
    Kit.due("b is done, c runs", Kit.summary(x), "a= b= c3");
    x.stop(2);
    Kit.due("isTakenUp(0), b being done", x.isTakenUp(0), true);
  }

  @Sentence(TAKEN_UP)
  static void termsABurntSuccessorTakesNothingUp() {
    RecipeScheduler x = after(7, BURNT_AFTER);
    Kit.due("b is done", Kit.summary(x), "a= b= c4");
    Kit.due("isTakenUp(0)", x.isTakenUp(0), true);
    x.pass(1);
    Kit.due("b is burnt", Kit.summary(x), "a= b* c3");
    Kit.due("isTakenUp(0)", x.isTakenUp(0), false);
    Kit.due("isTakenUp(1), not being done", x.isTakenUp(1), false);
  }

  @Sentence(READY)
  static void termsAllPredecessorsOfAReadyStepAreDone() {
    // The pan keeps e from starting in the minute in which it becomes ready.
    RecipeScheduler x = after(2, "recipe 4 0 0 9;pan p 1;step a 1 1;step b 1 1;step c 1 1;"
        + "step d 2 1;step e 1 1 in p after a b c d;step f 60 1 in p alone;");
    Kit.due("three of four are done", Kit.summary(x), "a= b= c= d1 e. f59");
    Kit.due("readyStep(0)", x.readyStep(0), NONE);
    x.pass(1);
    Kit.due("four of four are done", Kit.summary(x), "a= b= c= d= e. f58");
    Kit.due("readyStep(0)", x.readyStep(0), 4);
    Kit.due("readyStep(1)", x.readyStep(1), NONE);
  }

  @Sentence(READY)
  static void termsAReadyStepIsWaitingOrBurnt() {
    RecipeScheduler x = Kit.loaded(BURNT_AFTER);
    Kit.due("readyStep(0), waiting", x.readyStep(0), 0);
    x.pass(1);
    Kit.due("readyStep(0), a running", x.readyStep(0), 2);
    x.pass(6);
    Kit.due("readyStep(0), all done or running", x.readyStep(0), NONE);
    x.pass(1);
    Kit.due("readyStep(0), b burnt", x.readyStep(0), 1);
  }

  @Sentence("A running step that is not unattended occupies one cook.")
  static void termsAsManyAttendedStepsRunAsThereAreCooks() {
    for (int cooks = 1; cooks <= 4; cooks++) {
      RecipeScheduler x = after(1, "recipe " + cooks + " 0 0 9;step a 9 1;step b 9 1;step c 9 1;"
          + "step d 9 1;step e 9 1;step f 1 1 alone;step g 1 1 alone;");
      Kit.due("running", x.countWithStatus(RecipeScheduler.RUNNING), cooks + 2);
      Kit.due("whyNotRunning(4)", x.whyNotRunning(4), 4);
    }
  }

  @Sentence("A step that needs a pan type occupies one pan of this type while it is running.")
  static void termsARunningStepOccupiesOnePan() {
    RecipeScheduler x = Kit.loaded("recipe 4 0 0 9;pan p 5;pan q 5;step a 2 1 in q;step b 3 1;"
        + "step c 4 1 in q;");
    int[] due = {0, 2, 2, 1, 1, 0};
    for (int minute = 0; minute < due.length; minute++) {
      Kit.due("pansInUse(1) in minute " + minute, x.pansInUse(1), due[minute]);
      Kit.due("pansInUse(0)", x.pansInUse(0), 0);
      x.pass(1);
    }
    x.redo(2);
    x.pass(1);
    Kit.due("pansInUse(1)", x.pansInUse(1), 1);
    x.stop(2);
    Kit.due("pansInUse(1), stopped", x.pansInUse(1), 0);
  }

  @Sentence(HOLDS_PAN)
  static void termsADoneStepHoldsItsPanForTheLastOfItsSuccessors() {
    RecipeScheduler x = after(2, "recipe 1 9 0 9;pan p 1;step a 1 1 in p;step b 1 1 after a;"
        + "step c 1 1 after a;step d 1 1 after b;");
    Kit.due("b runs", Kit.summary(x), "a= b1 c. d.");
    Kit.due("pansInUse(0), c waiting", x.pansInUse(0), 1);
    x.pass(1);
    Kit.due("c runs", Kit.summary(x), "a= b= c1 d.");
    Kit.due("pansInUse(0), whatever d does", x.pansInUse(0), 0);
    x.stop(2);
    Kit.due("pansInUse(0), c waiting again", x.pansInUse(0), 1);
    x.pass(3);
    Kit.due("all done", Kit.summary(x), "a= b= c= d=");
    Kit.due("pansInUse(0)", x.pansInUse(0), 0);
  }

  @Sentence(HOLDS_PAN)
  static void termsADoneStepHoldsItsPanForABurntSuccessor() {
    RecipeScheduler x = after(7, BURNT_AFTER);
    Kit.due("pansInUse(0), b done", x.pansInUse(0), 0);
    x.pass(1);
    Kit.due("b is burnt", Kit.summary(x), "a= b* c3");
    Kit.due("pansInUse(0)", x.pansInUse(0), 1);
    x.pass(3);
    Kit.due("b runs again", Kit.summary(x), "a= b5 c=");
    Kit.due("pansInUse(0)", x.pansInUse(0), 0);
  }

  @Sentence(HOLDS_PAN)
  static void termsADoneStepWithoutSuccessorsHoldsNoPan() {
    RecipeScheduler x = after(1, "recipe 1 9 0 9;pan p 1;step a 1 1 in p;");
    Kit.due("pansInUse(0), running", x.pansInUse(0), 1);
    x.pass(1);
    Kit.due("pansInUse(0), done", x.pansInUse(0), 0);
  }

  @Sentence("A pan type has a free pan if fewer steps than its capacity occupy one of its pans.")
  static void termsFewerStepsThanTheCapacity() {
    RecipeScheduler x = after(2, "recipe 4 9 0 99;pan p 1;step a 1 1 in p;step b 9 1 after a;"
        + "step c 9 1 in p;step d 5 1 in p;");
    Kit.due("c has the pan of a", Kit.summary(x), "a= b9 c9 d.");
    Kit.due("pansInUse(0), as many", x.pansInUse(0), 1);
    Kit.due("whyNotRunning(3)", x.whyNotRunning(3), 3);
    x.stop(1);
    Kit.due("pansInUse(0), more", x.pansInUse(0), 2);
    Kit.due("whyNotRunning(3)", x.whyNotRunning(3), 3);
    x.stop(2);
    Kit.due("pansInUse(0), as many", x.pansInUse(0), 1);
    Kit.due("whyNotRunning(3)", x.whyNotRunning(3), 3);
    x.redo(0);
    Kit.due("pansInUse(0), fewer", x.pansInUse(0), 0);
    Kit.due("whyNotRunning(3)", x.whyNotRunning(3), 5);
  }

  @Sentence("The taste of the dish is the sum of the taste values of all done steps plus the salt.")
  static void termsOnlyDoneStepsHaveATaste() {
    RecipeScheduler x = Kit.loaded(BURNT_AFTER);
    x.addSalt(-9);
    int[] due = {-9, -9, -8, -8, -8, -8, -8, -6, -8, -8, -8, -5};
    for (int minute = 0; minute < due.length; minute++) {
      Kit.due("taste() in minute " + minute, x.taste(), due[minute]);
      x.pass(1);
    }
    x.pass(4);
    Kit.due("taste(), all done", x.taste(), -3);
  }

  @Sentence("The salt is 0 at first and can be negative.")
  static void termsTheSaltOnBothSidesOf0() {
    RecipeScheduler x = Kit.fresh();
    Kit.due("salt()", x.salt(), 0);
    x.addSalt(-1);
    Kit.due("salt()", x.salt(), -1);
    x.addSalt(2);
    Kit.due("salt()", x.salt(), 1);
    Kit.load(x, Kit.DEFAULT);
    Kit.due("salt() after load()", x.salt(), 0);
  }

  @Sentence(SERVING)
  static void termsADishIsServedWithATasteInRange() {
    Kit.Make done = Kit.FINISHED.then(x -> x.addSalt(-3));
    Kit.due("serve() with the lowest taste", done.made().serve(), 4);
    Kit.due("serve() with the highest taste", done.then(x -> x.addSalt(5)).made().serve(), 9);
    Kit.refuses(Kit.STATE, done.then(x -> x.addSalt(-1)), "serve() below the lowest",
        RecipeScheduler::serve);
    Kit.refuses(Kit.STATE, done.then(x -> x.addSalt(6)), "serve() above the highest",
        RecipeScheduler::serve);
  }

  @Sentence(SERVING)
  static void termsADishIsServedWhenAllStepsAreDone() {
    Kit.Make allButOne = Kit.NEW.then(x -> x.pass(16));
    Kit.due("done", allButOne.made().countWithStatus(RecipeScheduler.DONE), 4);
    Kit.refuses(Kit.STATE, allButOne, "serve() with a running step", RecipeScheduler::serve);
    Kit.refuses(Kit.STATE, allButOne.then(x -> x.stop(Kit.REST)), "serve() with a waiting step",
        RecipeScheduler::serve);
    Kit.due("serve()", allButOne.then(x -> x.pass(1)).made().serve(), 7);
  }
}
