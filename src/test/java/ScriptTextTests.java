/** The grammar of a script and its errors, and how a script runs: promise 59. */
final class ScriptTextTests {
  private ScriptTextTests() {}

  private static void bad(int code, String marked) {
    Kit.badScript(code, marked);
  }

  static void promise59SyntaxErrors() {
    bad(1, "pass^;");
    bad(1, "pass ^cut;");
    bad(1, "pass ^1000;");
    bad(1, "pass 1 ^1;");
    Kit.badScript("pass 1", 1, 6);
    Kit.badScript("pass 1;salt", 1, 11);
    Kit.badScript("pass 1;salt ", 1, 12);
    bad(1, "^;");
    bad(1, "pass 1;^;");
    bad(1, "^1;");
    bad(1, "^cut;");
    bad(1, "^passs 1;");
    bad(1, "^abcdefghi 1;");
    bad(1, "stop^;");
    bad(1, "stop ^1;");
    bad(1, "stop ^abcdefghi;");
    bad(1, "time cut^;");
    bad(1, "time ^5 cut;");
    bad(1, "time cut ^cut;");
    bad(1, "serve ^1;");
    bad(1, "serve ^cut;");
    bad(1, "salt ^-1;");
    bad(1, "pass 1;^Pass 1;");
    bad(1, "water ^x;");
    bad(1, "cooks ^x;");
    bad(1, "redo ^7;");
  }

  static void promise59NameErrors() {
    bad(3, "stop ^cuts;");
    bad(3, "stop ^pot;");
    bad(3, "redo ^abcdefg;");
    bad(3, "redo ^abcdefgh;");
    bad(3, "time ^nobody 5;");
    bad(3, "pass 1;stop cut;stop ^cu;");
  }

  static void promise59NumbersAreNotCheckedByTheParser() {
    RecipeScheduler x = Kit.fresh();
    Kit.due("runScript()", Kit.script(x, "pass 999;"), 0);
    Kit.due("errorCode()", x.errorCode(), 0);
    Kit.due("runScript()", Kit.script(x, "salt 0;pass 1;"), 0);
    Kit.due("runScript()", Kit.script(x, "salt 10;"), 0);
    Kit.due("runScript()", Kit.script(x, "water 10;"), 0);
    Kit.due("runScript()", Kit.script(x, "water 0;"), 0);
    Kit.due("runScript()", Kit.script(x, "cooks 5;"), 0);
    Kit.due("runScript()", Kit.script(x, "cooks 000;"), 0);
    Kit.due("runScript()", Kit.script(x, "time cut 61;"), 0);
    Kit.due("runScript()", Kit.script(x, "time cut 0;"), 0);
    Kit.due("state", Kit.state(x), Kit.state(Kit.fresh()));
  }

  static void promise59AtMost30Commands() {
    RecipeScheduler x = Kit.fresh();
    String thirty = "pass 1;".repeat(30);
    Kit.due("runScript()", Kit.script(x, thirty + "  "), 30);
    Kit.due("minute()", x.minute(), 30);
    bad(5, thirty + "^pass 1;");
    bad(5, thirty + "^serve");
    bad(1, thirty + "^parse 1;");
    bad(1, thirty + "^;");
    bad(1, thirty + "^3");
    bad(1, thirty + "^abcdefghi");
    bad(3, "stop ^x;" + thirty);
  }

  static void promise59CommandsCallTheirMethods() {
    RecipeScheduler x = Kit.fresh();
    RecipeScheduler y = Kit.fresh();
    Kit.due("runScript()", Kit.script(x, "pass 6 ; salt 9;water 5;cooks 3\n;time mix 12;"
        + "redo fry;pass 1;stop fry;pass 2;stop boil;"), 9);
    y.pass(6);
    y.addSalt(9);
    y.addSalt(-5);
    y.setCooks(3);
    y.setDuration(Kit.MIX, 12);
    y.redo(Kit.FRY);
    y.pass(1);
    y.stop(Kit.FRY);
    y.pass(2);
    Kit.due("state", Kit.state(x), Kit.state(y));
    Kit.due("boil was done by then", x.status(Kit.BOIL), RecipeScheduler.DONE);
    Kit.due("runScript()", Kit.script(x, "water 4;pass 50;serve;salt 1;pass 1;"), 3);
    y.addSalt(-4);
    y.pass(50);
    y.serve();
    Kit.due("state", Kit.state(x), Kit.state(y));
    Kit.due("salt()", x.salt(), 0);
    Kit.due("whyNotServed()", x.whyNotServed(), 1);
  }

  static void promise59StopsAtTheFirstCommandThatWouldThrow() {
    RecipeScheduler x = Kit.fresh();
    Kit.due("serve", Kit.script(x, "pass 1;serve;pass 1;"), 1);
    Kit.due("stop", Kit.script(x, "pass 1;stop boil;pass 1;"), 1);
    Kit.due("redo", Kit.script(x, "pass 1;redo boil;pass 1;"), 1);
    Kit.due("minute()", x.minute(), 3);
    x.pass(14);
    x.serve();
    Kit.due("salt", Kit.script(x, "salt 1;pass 1;"), 0);
    Kit.due("water", Kit.script(x, "water 1;pass 1;"), 0);
    Kit.due("redo", Kit.script(x, "redo rest;pass 1;"), 0);
    Kit.due("serve", Kit.script(x, "serve;pass 1;"), 0);
    for (int i = 0; i < 49; i++) {
      x.pass(200);
    }
    x.pass(182);
    Kit.due("minute()", x.minute(), 9999);
    Kit.due("pass", Kit.script(x, "cooks 2;pass 1;cooks 3;"), 1);
    Kit.due("cooks()", x.cooks(), 2);
  }

  static void promise59IsASingleChangeEvenIfNothingWasExecuted() {
    RecipeScheduler x = Kit.fresh();
    x.addSalt(1);
    Kit.script(x, "pass 3;salt 2;cooks 4;time cut 9;");
    Kit.script(x, "");
    Kit.script(x, "serve;");
    Kit.due("undo()", x.undo(), 3);
    Kit.due("undo()", x.undo(), 2);
    Kit.due("minute()", x.minute(), 3);
    Kit.due("undo()", x.undo(), 1);
    Kit.due("minute()", x.minute(), 0);
    Kit.due("salt()", x.salt(), 1);
    Kit.due("cooks()", x.cooks(), 1);
    Kit.due("duration(0)", x.duration(0), 3);
  }

  static void promise59ATextWithAnErrorIsNoChange() {
    RecipeScheduler x = Kit.fresh();
    x.addSalt(1);
    Kit.feed(x, "pass 1;pass;");
    Kit.throwsJust(Kit.ARGUMENT, "runScript()", x::runScript);
    Kit.due("minute()", x.minute(), 0);
    Kit.due("undo()", x.undo(), 0);
  }

  static void promise59EmptiesTheBuffer() {
    RecipeScheduler x = Kit.fresh();
    Kit.script(x, "pass 1;");
    Kit.due("buffer", Kit.length(x), 0);
    Kit.due("runScript() of nothing", x.runScript(), 0);
  }

  static void promise59WordsOfTheGrammarAreNames() {
    RecipeScheduler x = Kit.loaded("recipe 4 0 0 9;step pass 9 1;step time 9 1;");
    Kit.due("runScript()", Kit.script(x, "pass 1;stop pass;time time 4;stop time;redo pass;"), 4);
    Kit.due("duration(1)", x.duration(1), 4);
    Kit.due("countWithStatus(WAITING)", x.countWithStatus(RecipeScheduler.WAITING), 2);
  }
}
