/-! the texts of the class, by their places -/
def xz_texts : List (Nat × String) := [(42, "ticks is not 0 .. 1000000000"), (53, "there are 512 alarms"), (59, "it would be due behind 1000000000"), (68, "there is no such alarm"), (71, "ticks is not 0 .. 200000"), (73, "the time would be behind 1000000000"), (81, "what is not 0 or 1")]
