/** What an object is used for, scripts, changes and exceptions as a whole, and the constants. */
final class StateTermsBoundaries {
  private static final int NONE = RecipeScheduler.NONE;
  private static final String STOPS = "Execution stops at the first command whose method would "
      + "throw an exception; this command and all later ones are not executed.";
  private static final String CHANGES =
      "The methods in the section \"changes\" are changes if they do not throw an exception.";
  private static final String WHOLE_STATE = "Undoing, saving and restoring affect the whole state, "
      + "including all counters, except the input buffer, the error code, the error position, the "
      + "output text and the saved states.";

  private StateTermsBoundaries() {}

  @Sentence("An object is used for at most 512 calls after it has been made; what later calls "
      + "answer is free.")
  static void termsThe512thCallIsAnswered() {
    RecipeScheduler x = Kit.fresh();
    for (int call = 1; call <= 511; call++) {
      Kit.due("addSalt()", x.addSalt(9), 9 * call);
    }
    Kit.due("salt(), the 512th call", x.salt(), 9 * 511);
  }

  @Sentence("A script without an error is executed command by command.")
  static void termsEachCommandMeetsWhatTheOnesBeforeItLeft() {
    RecipeScheduler x = Kit.fresh();
    Kit.due("runScript()",
        Kit.script(x, "pass 1;stop cut;pass 1;stop cut;cooks 2;pass 1;stop fry;"), 7);
    Kit.due("startsOf(CUT)", x.startsOf(Kit.CUT), 3);
    Kit.due("startsOf(FRY)", x.startsOf(Kit.FRY), 1);
    Kit.due("cookMinutes()", x.cookMinutes(), 0);
    Kit.due("the other way round", Kit.script(Kit.fresh(), "stop cut;pass 1;"), 0);
  }

  @Sentence(STOPS)
  static void termsTheFirstTheMiddleOrTheLastCommandFails() {
    int[] executed = {0, 1, 2, 3};
    String[] scripts = {"stop cut;cooks 2;cooks 3;", "cooks 2;stop cut;cooks 3;",
        "cooks 2;cooks 3;stop cut;", "cooks 2;cooks 3;cooks 4;"};
    int[] cooks = {1, 2, 3, 4};
    for (int i = 0; i < 4; i++) {
      RecipeScheduler x = Kit.fresh();
      Kit.due("runScript() of " + scripts[i], Kit.script(x, scripts[i]), executed[i]);
      Kit.due("cooks()", x.cooks(), cooks[i]);
      Kit.due("errorCode()", x.errorCode(), 0);
    }
  }

  @Sentence(STOPS)
  static void termsNothingOfTheFailingCommandIsDone() {
    String[] failing = {"pass 0;", "pass 201;", "salt 10;", "water 10;", "cooks 5;", "time cut 61;",
        "stop cut;", "redo cut;", "serve;"};
    for (String command : failing) {
      RecipeScheduler x = Kit.fresh();
      Kit.due("runScript() of " + command, Kit.script(x, command + "pass 1;salt 1;cooks 2;"), 0);
      Kit.due("the state", Kit.state(x), Kit.state(Kit.fresh()));
    }
    RecipeScheduler late = Kit.atMinute(9998, Kit.NEW).made();
    Kit.due("runScript()", Kit.script(late, "pass 2;pass 1;"), 0);
    Kit.due("minute()", late.minute(), 9998);
    Kit.due("runScript()", Kit.script(late, "pass 1;pass 1;"), 1);
    Kit.due("minute()", late.minute(), 9999);
  }

  @Sentence(CHANGES)
  static void termsEachMethodOfTheSectionIsOneChange() {
    Kit.Act[] changes = {x -> x.pass(1), x -> x.addSalt(1), x -> x.redo(Kit.REST),
        x -> x.setCooks(1), x -> x.setDuration(0, 3), RecipeScheduler::serve,
        RecipeScheduler::runScript};
    for (int i = 0; i < changes.length; i++) {
      RecipeScheduler x = Kit.FINISHED.then(y -> y.save(0), y -> y.restore(0), changes[i]).made();
      Kit.due("undo() of change " + i, x.undo(), 0);
      Kit.due("state", Kit.state(x), Kit.state(Kit.FINISHED.made()));
      Kit.throwsJust(Kit.STATE, "undo() of no more", x::undo);
    }
    Kit.Make running = Kit.NEW.then(x -> x.pass(1), x -> x.save(0), x -> x.restore(0));
    RecipeScheduler x = running.then(y -> y.stop(0)).made();
    Kit.due("undo() of stop()", x.undo(), 0);
    Kit.due("state", Kit.state(x), Kit.state(running.made()));
  }

  @Sentence(CHANGES)
  static void termsAThrowingMethodIsNoChange() {
    Kit.Act[] refused = {x -> x.pass(0), x -> x.addSalt(0), x -> x.stop(0), x -> x.redo(0),
        x -> x.setCooks(0), x -> x.setDuration(0, 0), RecipeScheduler::serve};
    for (Kit.Act call : refused) {
      RecipeScheduler x = Kit.NEW.then(y -> y.addSalt(1), y -> Kit.refused(y, call)).made();
      Kit.due("undo() of what came before", x.undo(), 0);
      Kit.throwsJust(Kit.STATE, "undo()", x::undo);
    }
    Kit.throwsJust(Kit.STATE, "undo() after a script with an error", () -> Kit.NEW.fed("pass;")
        .then(x -> Kit.refused(x, RecipeScheduler::runScript)).made().undo());
  }

  @Sentence(CHANGES)
  static void termsNoOtherMethodIsAChange() {
    Kit.Act[] others = {x -> x.append(1, 2, 3, 4, 5), x -> x.truncate(0), x -> x.save(1),
        RecipeScheduler::writeSummary, x -> x.minutesToFinish(), x -> x.bottleneck(),
        x -> x.statusAfter(0, 9), x -> x.readyStep(0), x -> x.status(0)};
    for (Kit.Act call : others) {
      Kit.throwsJust(Kit.STATE, "undo()", () -> Kit.NEW.then(call).made().undo());
    }
  }

  @Sentence("The latest 6 changes can be undone.")
  static void termsSixChangesAndNotTheSeventh() {
    for (int changes = 0; changes <= 8; changes++) {
      RecipeScheduler x = Kit.fresh();
      for (int i = 0; i < changes; i++) {
        x.addSalt(i + 1);
      }
      int undone = 0;
      int salt = changes * (changes + 1) / 2;
      for (; undone < Math.min(6, changes); undone++) {
        Kit.due("undo()", x.undo(), Math.min(6, changes) - undone - 1);
        salt -= changes - undone;
        Kit.due("salt()", x.salt(), salt);
      }
      Kit.throwsJust(Kit.STATE, "undo() of the " + (undone + 1) + "th of " + changes, x::undo);
      Kit.due("salt()", x.salt(), salt);
    }
  }

  /** Changes everything that a change can change. */
  private static Kit.Make muchLater(Kit.Make make) {
    return make.then(x -> x.stop(Kit.BOIL), x -> x.addSalt(-7), x -> x.setCooks(4),
        x -> x.setDuration(Kit.FRY, 1), x -> x.pass(9));
  }

  @Sentence(WHOLE_STATE)
  static void termsTheWholeStateIsUndone() {
    Kit.Make early = Kit.NEW.then(x -> x.pass(8), x -> x.addSalt(3));
    RecipeScheduler x = muchLater(early).made();
    for (int i = 0; i < 5; i++) {
      x.undo();
    }
    Kit.due("state", Kit.state(x), Kit.state(early.made()));
    RecipeScheduler served = Kit.SERVED.made();
    served.undo();
    Kit.due("whyNotServed()", served.whyNotServed(), 0);
    RecipeScheduler burnt =
        Kit.made(ProgressTermsBoundaries.BURNT_AFTER).then(y -> y.pass(8), y -> y.pass(4)).made();
    burnt.undo();
    Kit.due("summary", Kit.summary(burnt), "a= b* c3");
    Kit.due("burns()", burnt.burns(), 1);
    burnt.undo();
    Kit.due("burns()", burnt.burns(), 0);
  }

  @Sentence(WHOLE_STATE)
  static void termsTheWholeStateIsSavedAndRestored() {
    Kit.Make early = Kit.NEW.then(x -> x.pass(8), x -> x.addSalt(3), x -> x.save(1));
    RecipeScheduler x = muchLater(early).then(y -> y.restore(1)).made();
    Kit.due("state", Kit.state(x), Kit.state(early.made()));
    RecipeScheduler served = Kit.SERVED.then(y -> y.save(0), y -> y.undo(), y -> y.restore(0))
        .made();
    Kit.due("whyNotServed()", served.whyNotServed(), 1);
    RecipeScheduler burnt = Kit.made(ProgressTermsBoundaries.BURNT_AFTER)
        .then(y -> y.pass(8), y -> y.save(0), y -> y.pass(4), y -> y.restore(0)).made();
    Kit.due("summary", Kit.summary(burnt), "a= b* c3");
  }

  @Sentence(WHOLE_STATE)
  static void termsTheBufferTheErrorAndTheOutputStay() {
    Kit.Act[] calls = {RecipeScheduler::undo, x -> x.restore(0), x -> x.save(0)};
    for (Kit.Act call : calls) {
      RecipeScheduler x = Kit.NEW.then(y -> y.pass(4), y -> y.save(0), y -> y.pass(1),
          RecipeScheduler::writeSummary).fed("cooks 5;stop cu").then(
              y -> Kit.refused(y, RecipeScheduler::runScript)).fed("boil").then(call).made();
      Kit.due("errorCode()", x.errorCode(), 3);
      Kit.due("errorPosition()", x.errorPosition(), 13);
      Kit.due("findStep()", x.findStep(), Kit.BOIL);
      Kit.due("truncate(4)", x.truncate(4), 4);
      Kit.throwsJust(Kit.ARGUMENT, "truncate(5)", () -> x.truncate(5));
      String summary = "cut= boil4 fry1 mix. rest.";
      for (int i = 0; i < summary.length(); i++) {
        Kit.due("outputByte " + i, x.outputByte(i), summary.charAt(i));
      }
      Kit.throwsJust(Kit.BOUNDS, "outputByte()", () -> x.outputByte(summary.length()));
    }
  }

  @Sentence(WHOLE_STATE)
  static void termsTheSavedStatesStay() {
    Kit.Make make = Kit.NEW.then(x -> x.pass(4), x -> x.save(0), x -> x.pass(1), x -> x.save(1));
    RecipeScheduler undone = make.then(x -> x.undo(), x -> x.undo()).made();
    Kit.due("minute()", undone.minute(), 0);
    Kit.due("restore(1) after undo()", undone.restore(1), 5);
    Kit.due("restore(0) after restore(1)", undone.restore(0), 4);
    Kit.due("restore(1) after restore(0)", undone.restore(1), 5);
  }

  @Sentence("A method that throws an exception changes nothing unless its description says "
      + "otherwise.")
  static void termsRefusedCallsChangeNothing() {
    Kit.Make make = Kit.rich(Kit.NEW.then(x -> x.pass(8)));
    Kit.refuses(Kit.ARGUMENT, make, "truncate(-1)", x -> x.truncate(-1));
    Kit.refuses(Kit.STATE, make.then(x -> x.truncate(0)).fed("x".repeat(681)), "append()",
        x -> x.append(0, 0, 0, 0, 0));
    Kit.refuses(Kit.ARGUMENT, make, "countWithStatus(4)", x -> x.countWithStatus(4));
    Kit.refuses(Kit.BOUNDS, make, "panCapacity(2)", x -> x.panCapacity(2));
    Kit.refuses(Kit.BOUNDS, make, "nameLetter(0, 3)", x -> x.nameLetter(0, 3));
    Kit.refuses(Kit.ELEMENT, make, "findStep()", RecipeScheduler::findStep);
    Kit.refuses(Kit.ARGUMENT, make, "statusAfter(0, 501)", x -> x.statusAfter(0, 501));
    Kit.refuses(Kit.ARGUMENT, make, "minutesWithCooks(5)", x -> x.minutesWithCooks(5));
    Kit.refuses(Kit.ARGUMENT, make, "pass(201)", x -> x.pass(201));
    Kit.refuses(Kit.ARGUMENT, make, "addSalt(10)", x -> x.addSalt(10));
    Kit.refuses(Kit.STATE, make, "stop(CUT)", x -> x.stop(Kit.CUT));
    Kit.refuses(Kit.STATE, make, "redo(CUT)", x -> x.redo(Kit.CUT));
    Kit.refuses(Kit.ARGUMENT, make, "setCooks(5)", x -> x.setCooks(5));
    Kit.refuses(Kit.ARGUMENT, make, "setDuration(0, 61)", x -> x.setDuration(0, 61));
    Kit.refuses(Kit.STATE, make, "serve()", RecipeScheduler::serve);
    Kit.refuses(Kit.BOUNDS, make, "save(2)", x -> x.save(2));
    Kit.refuses(Kit.BOUNDS, make, "restore(2)", x -> x.restore(2));
    Kit.refuses(Kit.BOUNDS, make, "outputByte(-1)", x -> x.outputByte(-1));
    Kit.refuses(Kit.STATE, Kit.NEW, "undo()", RecipeScheduler::undo);
    Kit.refuses(Kit.STATE, Kit.NEW, "restore(0)", x -> x.restore(0));
    Kit.refuses(Kit.ELEMENT, Kit.FINISHED, "bottleneck()", RecipeScheduler::bottleneck);
  }

  @Sentence("If several exceptions apply, the one that is listed first is thrown.")
  static void termsTheExceptionThatIsListedFirst() {
    Kit.throwsJust(Kit.BOUNDS, "statusAfter(5, 501)", () -> Kit.fresh().statusAfter(5, 501));
    Kit.throwsJust(Kit.BOUNDS, "statusAfter(-1, -1)", () -> Kit.fresh().statusAfter(-1, -1));
    Kit.throwsJust(Kit.ARGUMENT, "statusAfter(4, 501)", () -> Kit.fresh().statusAfter(4, 501));
    Kit.throwsJust(Kit.BOUNDS, "setDuration(5, 61)", () -> Kit.fresh().setDuration(5, 61));
    Kit.throwsJust(Kit.BOUNDS, "setDuration(-1, 0)", () -> Kit.fresh().setDuration(-1, 0));
    Kit.throwsJust(Kit.ARGUMENT, "setDuration(4, 61)", () -> Kit.fresh().setDuration(4, 61));
    Kit.throwsJust(Kit.ARGUMENT, "addSalt(10)", () -> Kit.SERVED.made().addSalt(10));
    Kit.throwsJust(Kit.ARGUMENT, "addSalt(0)", () -> Kit.SERVED.made().addSalt(0));
    Kit.throwsJust(Kit.STATE, "addSalt(9)", () -> Kit.SERVED.made().addSalt(9));
    Kit.throwsJust(Kit.BOUNDS, "redo(5)", () -> Kit.SERVED.made().redo(5));
    Kit.throwsJust(Kit.BOUNDS, "stop(5)", () -> Kit.SERVED.made().stop(5));
    Kit.throwsJust(Kit.BOUNDS, "restore(2)", () -> Kit.fresh().restore(2));
    Kit.Make last = Kit.atMinute(9999, Kit.NEW);
    Kit.throwsJust(Kit.ARGUMENT, "pass(201)", () -> last.made().pass(201));
    Kit.throwsJust(Kit.ARGUMENT, "pass(0)", () -> last.made().pass(0));
    Kit.throwsJust(Kit.STATE, "pass(200)", () -> last.made().pass(200));
  }

  @Sentence("The constants: `NONE = -1`: Returned where there is no step, no pan type or no number "
      + "of minutes.")
  static void termsNoneIsReturnedForWhatIsNotThere() {
    RecipeScheduler x = Kit.fresh();
    Kit.due("NONE", NONE, -1);
    Kit.due("predecessor(0, 0)", x.predecessor(0, 0), -1);
    Kit.due("readyStep(2)", x.readyStep(2), -1);
    Kit.due("blockingStep(0)", x.blockingStep(0), -1);
    Kit.due("rootBlocker(0)", x.rootBlocker(0), -1);
    Kit.due("criticalStep(4)", x.criticalStep(4), -1);
    Kit.due("panType(REST)", x.panType(Kit.REST), -1);
    Kit.due("minutesToBurn(0)", x.minutesToBurn(0), -1);
    Kit.due("errorPosition()", x.errorPosition(), -1);
  }

  @Sentence({"`WAITING = 0`: Status of a step that has not started, or was stopped.",
      "`RUNNING = 1`: Status of a step that is being worked on.",
      "`DONE = 2`: Status of a finished step.",
      "`BURNT = 3`: Status of a hot step whose result was held too long."})
  static void termsTheFourStatusesOfOneStep() {
    RecipeScheduler x = Kit.loaded("recipe 1 0 0 99;step a 5 2 hot;step b 4 3;");
    int[] due = {0, 1, 1, 1, 1, 1, 2, 3, 3, 3, 1, 1, 1, 1, 1, 2, 1};
    for (int minute = 0; minute < due.length; minute++) {
      Kit.due("status(0) in minute " + minute, x.status(0), due[minute]);
      x.pass(1);
    }
    x.stop(0);
    Kit.due("status(0), stopped", x.status(0), RecipeScheduler.WAITING);
    Kit.due("WAITING", RecipeScheduler.WAITING, 0);
    Kit.due("RUNNING", RecipeScheduler.RUNNING, 1);
    Kit.due("DONE", RecipeScheduler.DONE, 2);
    Kit.due("BURNT", RecipeScheduler.BURNT, 3);
  }

  @Sentence("Ahead of the calls `minutesToFinish`, `statusAfter`, `minutesToBurn`, "
      + "`minutesWithCooks`, `fewestCooks`, `bottleneck`, `saltNeeded`, `doneShare`, "
      + "`meanDuration`, `inconsistencies` the interface says: ---- forecasts (nothing changes; "
      + "they assume that only minutes pass, and may go beyond minute 9999).")
  static void termsForecastsChangeNothing() {
    Kit.Act[] forecasts = {RecipeScheduler::minutesToFinish, x -> x.statusAfter(0, 500),
        x -> x.minutesToBurn(Kit.FRY), x -> x.minutesWithCooks(4), RecipeScheduler::fewestCooks,
        RecipeScheduler::bottleneck, RecipeScheduler::saltNeeded, RecipeScheduler::doneShare,
        RecipeScheduler::meanDuration, RecipeScheduler::inconsistencies};
    Kit.Make make = Kit.rich(Kit.NEW.then(x -> x.pass(7)));
    String before = Kit.held(make);
    for (int i = 0; i < forecasts.length; i++) {
      Kit.due("what is held after forecast " + i, Kit.held(make.then(forecasts[i])), before);
    }
  }

  @Sentence("Ahead of the calls `minutesToFinish`, `statusAfter`, `minutesToBurn`, "
      + "`minutesWithCooks`, `fewestCooks`, `bottleneck`, `saltNeeded`, `doneShare`, "
      + "`meanDuration`, `inconsistencies` the interface says: ---- forecasts (nothing changes; "
      + "they assume that only minutes pass, and may go beyond minute 9999).")
  static void termsForecastsGoBeyondMinute9999() {
    RecipeScheduler x = Kit.atMinute(9999, Kit.FINISHED).then(y -> y.redo(Kit.REST)).made();
    Kit.due("minute()", x.minute(), 9999);
    Kit.due("minutesToFinish()", x.minutesToFinish(), 5);
    Kit.due("minutesWithCooks(1)", x.minutesWithCooks(1), 5);
    Kit.due("statusAfter(REST, 4)", x.statusAfter(Kit.REST, 4), RecipeScheduler.RUNNING);
    Kit.due("statusAfter(REST, 5)", x.statusAfter(Kit.REST, 5), RecipeScheduler.DONE);
    Kit.due("statusAfter(REST, 500)", x.statusAfter(Kit.REST, 500), RecipeScheduler.DONE);
    Kit.due("fewestCooks()", x.fewestCooks(), 1);
    Kit.due("bottleneck()", x.bottleneck(), Kit.REST);
    Kit.due("minutesToBurn(FRY)", x.minutesToBurn(Kit.FRY), NONE);
    RecipeScheduler hot = Kit.atMinute(9999, Kit.made("recipe 1 0 0 99;step a 60 1 hot;")).made();
    // It burns in minute 62 and every 61 minutes after that.
    Kit.due("minutesToBurn(0)", hot.minutesToBurn(0), 62 + 163 * 61 - 9999);
  }
}
