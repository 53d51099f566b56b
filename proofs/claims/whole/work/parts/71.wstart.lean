theorem xOff_of {l : Launch} (h : l.flags = flags0) : xOff l := by
  intro e he
  have e1 : e.platform.stackTraces = l.stackTraces := congrArg (fun z => z.stackTraces) he.2.2.2.2.1
  rw [e1]
  unfold Launch.stackTraces
  rw [h]
  decide
