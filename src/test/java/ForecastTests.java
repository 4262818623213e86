/** What will be if only minutes pass: promises 42 to 51. */
final class ForecastTests {
  private static final int NONE = RecipeScheduler.NONE;
  private static final String STUCK =
      "recipe 4 9 0 9;pan p 1;step a 1 1 in p;step b 1 1 in p after a;";

  private ForecastTests() {}

  static void promise42MinutesToFinish() {
    RecipeScheduler x = Kit.fresh();
    for (int minute = 0; minute < 17; minute++) {
      Kit.due("minutesToFinish()", x.minutesToFinish(), 17 - minute);
      x.pass(1);
    }
    Kit.due("minutesToFinish(), all done", x.minutesToFinish(), 0);
    x.serve();
    Kit.due("minutesToFinish(), served", x.minutesToFinish(), 0);
    Kit.load(x, STUCK);
    Kit.due("minutesToFinish(), never", x.minutesToFinish(), NONE);
  }

  static void promise42AllDoneIsZeroThoughOneWillBurn() {
    RecipeScheduler x = Kit.loaded("recipe 1 0 0 9;step a 1 1 hot;");
    x.pass(2);
    Kit.due("minutesToFinish()", x.minutesToFinish(), 0);
    x.pass(1);
    Kit.due("minutesToFinish()", x.minutesToFinish(), 1);
  }

  static void promise42TheBoundOf500() {
    RecipeScheduler x = Kit.loaded(Kit.row(60, 60, 60, 60, 60, 60, 60, 60, 19));
    Kit.due("minutesToFinish()", x.minutesToFinish(), 500);
    x.setDuration(8, 20);
    Kit.due("minutesToFinish()", x.minutesToFinish(), NONE);
    x.pass(1);
    Kit.due("minutesToFinish()", x.minutesToFinish(), 500);
  }

  static void promise42BeyondMinute9999() {
    RecipeScheduler x = Kit.fresh();
    x.pass(17);
    x.redo(Kit.REST);
    x.setCooks(4);
    while (x.minute() < 9800) {
      x.pass(100 - x.minute() % 100);
    }
    x.pass(199);
    x.redo(Kit.REST);
    Kit.due("minutesToFinish() at 9999", x.minutesToFinish(), 5);
    Kit.due("statusAfter(REST, 5)", x.statusAfter(Kit.REST, 5), RecipeScheduler.DONE);
    Kit.due("minutesWithCooks(1)", x.minutesWithCooks(1), 5);
    Kit.due("bottleneck()", x.bottleneck(), Kit.REST);
    Kit.due("minute()", x.minute(), 9999);
  }

  static void promise43StatusAfter() {
    RecipeScheduler x = Kit.fresh();
    RecipeScheduler y = Kit.fresh();
    for (int minutes = 0; minutes < 30; minutes++) {
      for (int step = 0; step < 5; step++) {
        Kit.due("statusAfter " + step + " " + minutes, x.statusAfter(step, minutes),
            y.status(step));
      }
      y.pass(1);
    }
    Kit.due("state", Kit.state(x), Kit.state(Kit.fresh()));
    Kit.due("statusAfter(4, 500)", x.statusAfter(4, 500), RecipeScheduler.DONE);
    for (int minutes : new int[] {-1, 501, Integer.MAX_VALUE, Integer.MIN_VALUE}) {
      Kit.throwsJust(Kit.ARGUMENT, "statusAfter 0 " + minutes, () -> x.statusAfter(0, minutes));
      Kit.throwsJust(Kit.BOUNDS, "statusAfter 5 " + minutes, () -> x.statusAfter(5, minutes));
      Kit.throwsJust(Kit.BOUNDS, "statusAfter -1 " + minutes, () -> x.statusAfter(-1, minutes));
    }
    Kit.throwsJust(Kit.BOUNDS, "statusAfter 5 1", () -> x.statusAfter(5, 1));
    Kit.load(x, RecipeTests.BURNING);
    Kit.due("statusAfter(0, 7)", x.statusAfter(0, 7), RecipeScheduler.BURNT);
    Kit.due("statusAfter(0, 11)", x.statusAfter(0, 11), RecipeScheduler.RUNNING);
  }

  static void promise44MinutesToBurn() {
    RecipeScheduler x = Kit.fresh();
    Kit.due("minutesToBurn(FRY)", x.minutesToBurn(Kit.FRY), 9);
    Kit.due("minutesToBurn(CUT)", x.minutesToBurn(Kit.CUT), NONE);
    x.pass(8);
    Kit.due("minutesToBurn(FRY)", x.minutesToBurn(Kit.FRY), 1);
    x.pass(1);
    Kit.due("minutesToBurn(FRY), not once more", x.minutesToBurn(Kit.FRY), NONE);
    Kit.load(x, "recipe 1 0 0 9;step a 1 1 hot;");
    Kit.due("minutesToBurn(0)", x.minutesToBurn(0), 3);
    x.pass(3);
    Kit.due("minutesToBurn(0) once more", x.minutesToBurn(0), 2);
    x.pass(1);
    x.serve();
    Kit.due("minutesToBurn(0), served", x.minutesToBurn(0), NONE);
    Kit.load(x, RecipeTests.BURNING);
    x.pass(7);
    Kit.due("minutesToBurn(0), burnt", x.minutesToBurn(0), 10);
  }

  static void promise44TheBoundOf500() {
    // The last step begins in the minute that ends the others, and burns 31 minutes after its end.
    RecipeScheduler x = Kit.loaded(Kit.row(60, 60, 60, 60, 60, 60, 60)
        + "step h 40 1;step last 8 1 hot;");
    Kit.due("minutesToFinish()", x.minutesToFinish(), 469);
    Kit.due("minutesToBurn(8)", x.minutesToBurn(8), 500);
    x.setDuration(8, 9);
    Kit.due("minutesToBurn(8)", x.minutesToBurn(8), NONE);
  }

  static void promise45MinutesWithCooks() {
    RecipeScheduler x = Kit.fresh();
    Kit.due("minutesWithCooks(1)", x.minutesWithCooks(1), 17);
    Kit.due("minutesWithCooks(2)", x.minutesWithCooks(2), 15);
    Kit.due("minutesWithCooks(4)", x.minutesWithCooks(4), 15);
    Kit.due("cooks()", x.cooks(), 1);
    for (int cooks : new int[] {0, 5, -1, Integer.MAX_VALUE, Integer.MIN_VALUE}) {
      Kit.throwsJust(Kit.ARGUMENT, "minutesWithCooks " + cooks, () -> x.minutesWithCooks(cooks));
    }
    x.pass(17);
    Kit.due("minutesWithCooks(3), all done", x.minutesWithCooks(3), 0);
    Kit.load(x, STUCK);
    Kit.due("minutesWithCooks(3), never", x.minutesWithCooks(3), NONE);
    Kit.load(x, "recipe 1 9 0 9;step a 6 1;step b 5 1;step c 4 1;step d 3 1;");
    Kit.due("minutesWithCooks(1)", x.minutesWithCooks(1), 19);
    Kit.due("minutesWithCooks(2)", x.minutesWithCooks(2), 10);
    Kit.due("minutesWithCooks(3)", x.minutesWithCooks(3), 8);
    Kit.due("minutesWithCooks(4)", x.minutesWithCooks(4), 7);
    x.setCooks(4);
    x.pass(1);
    Kit.due("minutesWithCooks(1), all running", x.minutesWithCooks(1), 6);
  }

  static void promise46FewestCooks() {
    RecipeScheduler x = Kit.fresh();
    Kit.due("fewestCooks()", x.fewestCooks(), 2);
    x.setCooks(4);
    Kit.due("fewestCooks(), whatever cooks() is", x.fewestCooks(), 2);
    x.pass(100);
    Kit.due("fewestCooks(), all done", x.fewestCooks(), 1);
    Kit.load(x, STUCK);
    Kit.due("fewestCooks(), never", x.fewestCooks(), 1);
    Kit.load(x, "recipe 1 9 0 9;step a 6 1;step b 5 1;step c 4 1;step d 3 1;");
    Kit.due("fewestCooks()", x.fewestCooks(), 4);
    x.setDuration(3, 2);
    Kit.due("fewestCooks()", x.fewestCooks(), 3);
  }

  static void promise47Bottleneck() {
    RecipeScheduler x = Kit.fresh();
    Kit.due("bottleneck()", x.bottleneck(), Kit.BOIL);
    Kit.due("state", Kit.state(x), Kit.state(Kit.fresh()));
    x.pass(17);
    Kit.throwsJust(Kit.ELEMENT, "bottleneck(), all done", x::bottleneck);
    x.redo(Kit.REST);
    Kit.due("bottleneck()", x.bottleneck(), Kit.REST);
    Kit.load(x, "recipe 4 9 0 9;step a 1 1;step b 9 1;step c 9 1;");
    Kit.due("bottleneck(), neither b nor c alone", x.bottleneck(), 0);
    x.setDuration(1, 10);
    Kit.due("bottleneck()", x.bottleneck(), 1);
    x.pass(2);
    Kit.due("bottleneck(), the remaining time staying", x.bottleneck(), 1);
    Kit.load(x, STUCK);
    Kit.due("bottleneck(), never", x.bottleneck(), 0);
    x.pass(5);
    Kit.due("bottleneck(), a being done", x.bottleneck(), 1);
  }

  static void promise47ADurationOf1Stays() {
    RecipeScheduler x = Kit.loaded("recipe 1 9 0 9;step a 1 1;step b 2 1;");
    Kit.due("bottleneck()", x.bottleneck(), 1);
    x.setDuration(1, 1);
    Kit.due("bottleneck()", x.bottleneck(), 0);
  }

  static void promise47NoneCountsAs501() {
    RecipeScheduler x = Kit.loaded(Kit.row(1, 60, 60, 60, 60, 60, 60, 60, 60, 19));
    Kit.due("minutesToFinish()", x.minutesToFinish(), NONE);
    Kit.due("bottleneck()", x.bottleneck(), 1);
    x.setDuration(9, 30);
    Kit.due("bottleneck(), none being enough", x.bottleneck(), 0);
  }

  static void promise48SaltNeeded() {
    RecipeScheduler x = Kit.fresh();
    Kit.due("saltNeeded() at 7", x.saltNeeded(), 0);
    x.addSalt(2);
    Kit.due("saltNeeded() at 9", x.saltNeeded(), 0);
    x.addSalt(1);
    Kit.due("saltNeeded() at 10", x.saltNeeded(), -1);
    x.addSalt(9);
    Kit.due("saltNeeded() at 19", x.saltNeeded(), -10);
    x.addSalt(-9);
    x.addSalt(-6);
    Kit.due("saltNeeded() at 4", x.saltNeeded(), 0);
    x.addSalt(-1);
    Kit.due("saltNeeded() at 3", x.saltNeeded(), 1);
    x.addSalt(-9);
    Kit.due("saltNeeded() at -6", x.saltNeeded(), 10);
    x.pass(17);
    Kit.due("saltNeeded(), all done", x.saltNeeded(), 10);
  }

  static void promise49DoneShare() {
    RecipeScheduler x = Kit.fresh();
    Kit.due("doneShare()", x.doneShare(), 0.0f);
    x.pass(6);
    Kit.due("doneShare()", x.doneShare(), 2.0f / 5.0f);
    x.pass(11);
    Kit.due("doneShare()", x.doneShare(), 1.0f);
    Kit.load(x, "recipe 1 9 0 9;step a 1 1;step b 1 1;step c 1 1;");
    x.pass(2);
    Kit.due("doneShare()", x.doneShare(), 1.0f / 3.0f);
    Kit.load(x, RecipeTests.BURNING);
    x.pass(7);
    Kit.due("doneShare() of a burnt and a running step", x.doneShare(), 0.0f);
  }

  static void promise50MeanDuration() {
    RecipeScheduler x = Kit.fresh();
    Kit.due("meanDuration()", x.meanDuration(), 16.0 / 5.0);
    x.setDuration(4, 9);
    Kit.due("meanDuration()", x.meanDuration(), 21.0 / 5.0);
    x.undo();
    Kit.due("meanDuration()", x.meanDuration(), 3.2);
    Kit.load(x, "recipe 1 9 0 9;step a 1 1;step b 2 1;step c 60 1;");
    Kit.due("meanDuration()", x.meanDuration(), 63.0 / 3.0);
    x.setDuration(2, 59);
    Kit.due("meanDuration()", x.meanDuration(), 62.0 / 3.0);
  }

  static void promise51InconsistenciesAreAlways0() {
    RecipeScheduler x = Kit.fresh();
    Kit.due("inconsistencies()", x.inconsistencies(), 0);
    x.pass(4);
    Kit.due("inconsistencies(), two running", x.inconsistencies(), 0);
    x.stop(Kit.FRY);
    Kit.due("inconsistencies() after stop()", x.inconsistencies(), 0);
    x.undo();
    Kit.due("inconsistencies() after undo()", x.inconsistencies(), 0);
    Kit.script(x, "stop fry;pass 1;stop fry;stop boil;");
    Kit.due("inconsistencies() after a script", x.inconsistencies(), 0);
    x.save(0);
    x.pass(40);
    x.redo(Kit.REST);
    x.pass(1);
    x.stop(Kit.REST);
    x.redo(Kit.MIX);
    Kit.due("inconsistencies() after redo()", x.inconsistencies(), 0);
    x.restore(0);
    Kit.due("inconsistencies() after restore()", x.inconsistencies(), 0);
    Kit.load(x, Kit.DEFAULT);
    Kit.due("inconsistencies() after load()", x.inconsistencies(), 0);
    x.pass(2);
    Kit.due("inconsistencies()", x.inconsistencies(), 0);
  }
}
