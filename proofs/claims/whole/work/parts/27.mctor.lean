def jf_M_init_420B (N : Nat) (text : Nat → Int32) (letters : Int32) (mowers : Int32) (cows : Int32) (ricks : Int32) (weathers : Int32) (says : Nat → Int32) (words : Nat → Int32) (weather : Nat → Int32) (kindOf : Nat → Int32) (thatch : Nat → Int32) (newMowers : Int32) (newCows : Int32) (newRicks : Int32) (newWeathers : Int32) (newSays : Nat → Int32) (newWords : Nat → Int32) (newWeather : Nat → Int32) (newKind : Nat → Int32) (newThatch : Nat → Int32) (st : Nat → Int32) (pasts : Int32) (seen : Int32) (keeps : Int32) (u0 : Nat → Int32) (x2 : Int32) (kh420 : ((Nat → Int32) × Int32) → Option ((Nat → Int32) × Int32 × Int32 × Int32 × Int32 × Int32 × (Nat → Int32) × (Nat → Int32) × (Nat → Int32) × (Nat → Int32) × (Nat → Int32) × Int32 × Int32 × Int32 × Int32 × (Nat → Int32) × (Nat → Int32) × (Nat → Int32) × (Nat → Int32) × (Nat → Int32) × (Nat → Int32) × Int32 × Int32 × Int32 × (Nat → Int32))) (kx441 : ((Nat → Int32)) → Option ((Nat → Int32) × Int32 × Int32 × Int32 × Int32 × Int32 × (Nat → Int32) × (Nat → Int32) × (Nat → Int32) × (Nat → Int32) × (Nat → Int32) × Int32 × Int32 × Int32 × Int32 × (Nat → Int32) × (Nat → Int32) × (Nat → Int32) × (Nat → Int32) × (Nat → Int32) × (Nat → Int32) × Int32 × Int32 × Int32 × (Nat → Int32))) : Option ((Nat → Int32) × Int32 × Int32 × Int32 × Int32 × Int32 × (Nat → Int32) × (Nat → Int32) × (Nat → Int32) × (Nat → Int32) × (Nat → Int32) × Int32 × Int32 × Int32 × Int32 × (Nat → Int32) × (Nat → Int32) × (Nat → Int32) × (Nat → Int32) × (Nat → Int32) × (Nat → Int32) × Int32 × Int32 × Int32 × (Nat → Int32)) :=
  if (nI 47) ≤ x2 then (kx441 text) else (xr x2 47 (xr x2 200 (xl (upd text (Int32.toNatClampNeg x2) (u0 (Int32.toNatClampNeg x2))) (fun (z1 : Nat → Int32) => xl (x2 + (1 : Int32)) (fun (v1 : Int32) => kh420 (z1, v1))))))
def jf_M_init_420 (N : Nat) (text : Nat → Int32) (letters : Int32) (mowers : Int32) (cows : Int32) (ricks : Int32) (weathers : Int32) (says : Nat → Int32) (words : Nat → Int32) (weather : Nat → Int32) (kindOf : Nat → Int32) (thatch : Nat → Int32) (newMowers : Int32) (newCows : Int32) (newRicks : Int32) (newWeathers : Int32) (newSays : Nat → Int32) (newWords : Nat → Int32) (newWeather : Nat → Int32) (newKind : Nat → Int32) (newThatch : Nat → Int32) (st : Nat → Int32) (pasts : Int32) (seen : Int32) (keeps : Int32) (u0 : Nat → Int32) (x2 : Int32) (kx441 : ((Nat → Int32)) → Option ((Nat → Int32) × Int32 × Int32 × Int32 × Int32 × Int32 × (Nat → Int32) × (Nat → Int32) × (Nat → Int32) × (Nat → Int32) × (Nat → Int32) × Int32 × Int32 × Int32 × Int32 × (Nat → Int32) × (Nat → Int32) × (Nat → Int32) × (Nat → Int32) × (Nat → Int32) × (Nat → Int32) × Int32 × Int32 × Int32 × (Nat → Int32))) : Option ((Nat → Int32) × Int32 × Int32 × Int32 × Int32 × Int32 × (Nat → Int32) × (Nat → Int32) × (Nat → Int32) × (Nat → Int32) × (Nat → Int32) × Int32 × Int32 × Int32 × Int32 × (Nat → Int32) × (Nat → Int32) × (Nat → Int32) × (Nat → Int32) × (Nat → Int32) × (Nat → Int32) × Int32 × Int32 × Int32 × (Nat → Int32)) :=
  xloop (fun (kh : ((Nat → Int32) × Int32) → Option ((Nat → Int32) × Int32 × Int32 × Int32 × Int32 × Int32 × (Nat → Int32) × (Nat → Int32) × (Nat → Int32) × (Nat → Int32) × (Nat → Int32) × Int32 × Int32 × Int32 × Int32 × (Nat → Int32) × (Nat → Int32) × (Nat → Int32) × (Nat → Int32) × (Nat → Int32) × (Nat → Int32) × Int32 × Int32 × Int32 × (Nat → Int32))) q => jf_M_init_420B N q.1 letters mowers cows ricks weathers says words weather kindOf thatch newMowers newCows newRicks newWeathers newSays newWords newWeather newKind newThatch st pasts seen keeps u0 q.2 kh kx441) N (text, x2)
def jf_M_init_441 (N : Nat) (text : Nat → Int32) (letters : Int32) (mowers : Int32) (cows : Int32) (ricks : Int32) (weathers : Int32) (says : Nat → Int32) (words : Nat → Int32) (weather : Nat → Int32) (kindOf : Nat → Int32) (thatch : Nat → Int32) (newMowers : Int32) (newCows : Int32) (newRicks : Int32) (newWeathers : Int32) (newSays : Nat → Int32) (newWords : Nat → Int32) (newWeather : Nat → Int32) (newKind : Nat → Int32) (newThatch : Nat → Int32) (st : Nat → Int32) (pasts : Int32) (seen : Int32) (keeps : Int32) (u0 : Nat → Int32)  : Option ((Nat → Int32) × Int32 × Int32 × Int32 × Int32 × Int32 × (Nat → Int32) × (Nat → Int32) × (Nat → Int32) × (Nat → Int32) × (Nat → Int32) × Int32 × Int32 × Int32 × Int32 × (Nat → Int32) × (Nat → Int32) × (Nat → Int32) × (Nat → Int32) × (Nat → Int32) × (Nat → Int32) × Int32 × Int32 × Int32 × (Nat → Int32)) :=
  xl (nI 47) (fun (v1 : Int32) => xb (jf_M_lay N text v1 mowers cows ricks weathers says words weather kindOf thatch newMowers newCows newRicks newWeathers newSays newWords newWeather newKind newThatch st pasts seen keeps) (fun q1 => some (text, (0 : Int32), q1.2.1, q1.2.2.1, q1.2.2.2.1, q1.2.2.2.2.1, q1.2.2.2.2.2.1, q1.2.2.2.2.2.2.1, q1.2.2.2.2.2.2.2.1, q1.2.2.2.2.2.2.2.2.1, q1.2.2.2.2.2.2.2.2.2.1, q1.2.2.2.2.2.2.2.2.2.2.1, q1.2.2.2.2.2.2.2.2.2.2.2.1, q1.2.2.2.2.2.2.2.2.2.2.2.2.1, q1.2.2.2.2.2.2.2.2.2.2.2.2.2.1, q1.2.2.2.2.2.2.2.2.2.2.2.2.2.2.1, q1.2.2.2.2.2.2.2.2.2.2.2.2.2.2.2.1, q1.2.2.2.2.2.2.2.2.2.2.2.2.2.2.2.2.1, q1.2.2.2.2.2.2.2.2.2.2.2.2.2.2.2.2.2.1, q1.2.2.2.2.2.2.2.2.2.2.2.2.2.2.2.2.2.2.1, q1.2.2.2.2.2.2.2.2.2.2.2.2.2.2.2.2.2.2.2.1, q1.2.2.2.2.2.2.2.2.2.2.2.2.2.2.2.2.2.2.2.2.1, q1.2.2.2.2.2.2.2.2.2.2.2.2.2.2.2.2.2.2.2.2.2.1, q1.2.2.2.2.2.2.2.2.2.2.2.2.2.2.2.2.2.2.2.2.2.2, u0)))
def jf_M_init (N : Nat) (text : Nat → Int32) (letters : Int32) (mowers : Int32) (cows : Int32) (ricks : Int32) (weathers : Int32) (says : Nat → Int32) (words : Nat → Int32) (weather : Nat → Int32) (kindOf : Nat → Int32) (thatch : Nat → Int32) (newMowers : Int32) (newCows : Int32) (newRicks : Int32) (newWeathers : Int32) (newSays : Nat → Int32) (newWords : Nat → Int32) (newWeather : Nat → Int32) (newKind : Nat → Int32) (newThatch : Nat → Int32) (st : Nat → Int32) (pasts : Int32) (seen : Int32) (keeps : Int32) (u0 : Nat → Int32) : Option ((Nat → Int32) × Int32 × Int32 × Int32 × Int32 × Int32 × (Nat → Int32) × (Nat → Int32) × (Nat → Int32) × (Nat → Int32) × (Nat → Int32) × Int32 × Int32 × Int32 × Int32 × (Nat → Int32) × (Nat → Int32) × (Nat → Int32) × (Nat → Int32) × (Nat → Int32) × (Nat → Int32) × Int32 × Int32 × Int32 × (Nat → Int32)) :=
  xr (0 : Int32) 47 (xl (upd u0 (Int32.toNatClampNeg (0 : Int32)) (109 : Int32)) (fun (z1 : Nat → Int32) => xr (1 : Int32) 47 (xl (upd z1 (Int32.toNatClampNeg (1 : Int32)) (51 : Int32)) (fun (z2 : Nat → Int32) => xr (2 : Int32) 47 (xl (upd z2 (Int32.toNatClampNeg (2 : Int32)) (49 : Int32)) (fun (z3 : Nat → Int32) => xr (3 : Int32) 47 (xl (upd z3 (Int32.toNatClampNeg (3 : Int32)) (52 : Int32)) (fun (z4 : Nat → Int32) => xr (4 : Int32) 47 (xl (upd z4 (Int32.toNatClampNeg (4 : Int32)) (59 : Int32)) (fun (z5 : Nat → Int32) => xr (5 : Int32) 47 (xl (upd z5 (Int32.toNatClampNeg (5 : Int32)) (109 : Int32)) (fun (z6 : Nat → Int32) => xr (6 : Int32) 47 (xl (upd z6 (Int32.toNatClampNeg (6 : Int32)) (50 : Int32)) (fun (z7 : Nat → Int32) => xr (7 : Int32) 47 (xl (upd z7 (Int32.toNatClampNeg (7 : Int32)) (55 : Int32)) (fun (z8 : Nat → Int32) => xr (8 : Int32) 47 (xl (upd z8 (Int32.toNatClampNeg (8 : Int32)) (49 : Int32)) (fun (z9 : Nat → Int32) => xr (9 : Int32) 47 (xl (upd z9 (Int32.toNatClampNeg (9 : Int32)) (56 : Int32)) (fun (z10 : Nat → Int32) => xr (10 : Int32) 47 (xl (upd z10 (Int32.toNatClampNeg (10 : Int32)) (59 : Int32)) (fun (z11 : Nat → Int32) => xr (11 : Int32) 47 (xl (upd z11 (Int32.toNatClampNeg (11 : Int32)) (109 : Int32)) (fun (z12 : Nat → Int32) => xr (12 : Int32) 47 (xl (upd z12 (Int32.toNatClampNeg (12 : Int32)) (53 : Int32)) (fun (z13 : Nat → Int32) => xr (13 : Int32) 47 (xl (upd z13 (Int32.toNatClampNeg (13 : Int32)) (59 : Int32)) (fun (z14 : Nat → Int32) => xr (14 : Int32) 47 (xl (upd z14 (Int32.toNatClampNeg (14 : Int32)) (109 : Int32)) (fun (z15 : Nat → Int32) => xr (15 : Int32) 47 (xl (upd z15 (Int32.toNatClampNeg (15 : Int32)) (57 : Int32)) (fun (z16 : Nat → Int32) => xr (16 : Int32) 47 (xl (upd z16 (Int32.toNatClampNeg (16 : Int32)) (57 : Int32)) (fun (z17 : Nat → Int32) => xr (17 : Int32) 47 (xl (upd z17 (Int32.toNatClampNeg (17 : Int32)) (48 : Int32)) (fun (z18 : Nat → Int32) => xr (18 : Int32) 47 (xl (upd z18 (Int32.toNatClampNeg (18 : Int32)) (50 : Int32)) (fun (z19 : Nat → Int32) => xr (19 : Int32) 47 (xl (upd z19 (Int32.toNatClampNeg (19 : Int32)) (59 : Int32)) (fun (z20 : Nat → Int32) => xr (20 : Int32) 47 (xl (upd z20 (Int32.toNatClampNeg (20 : Int32)) (101 : Int32)) (fun (z21 : Nat → Int32) => xr (21 : Int32) 47 (xl (upd z21 (Int32.toNatClampNeg (21 : Int32)) (48 : Int32)) (fun (z22 : Nat → Int32) => xr (22 : Int32) 47 (xl (upd z22 (Int32.toNatClampNeg (22 : Int32)) (49 : Int32)) (fun (z23 : Nat → Int32) => xr (23 : Int32) 47 (xl (upd z23 (Int32.toNatClampNeg (23 : Int32)) (50 : Int32)) (fun (z24 : Nat → Int32) => xr (24 : Int32) 47 (xl (upd z24 (Int32.toNatClampNeg (24 : Int32)) (48 : Int32)) (fun (z25 : Nat → Int32) => xr (25 : Int32) 47 (xl (upd z25 (Int32.toNatClampNeg (25 : Int32)) (59 : Int32)) (fun (z26 : Nat → Int32) => xr (26 : Int32) 47 (xl (upd z26 (Int32.toNatClampNeg (26 : Int32)) (99 : Int32)) (fun (z27 : Nat → Int32) => xr (27 : Int32) 47 (xl (upd z27 (Int32.toNatClampNeg (27 : Int32)) (48 : Int32)) (fun (z28 : Nat → Int32) => xr (28 : Int32) 47 (xl (upd z28 (Int32.toNatClampNeg (28 : Int32)) (59 : Int32)) (fun (z29 : Nat → Int32) => xr (29 : Int32) 47 (xl (upd z29 (Int32.toNatClampNeg (29 : Int32)) (99 : Int32)) (fun (z30 : Nat → Int32) => xr (30 : Int32) 47 (xl (upd z30 (Int32.toNatClampNeg (30 : Int32)) (49 : Int32)) (fun (z31 : Nat → Int32) => xr (31 : Int32) 47 (xl (upd z31 (Int32.toNatClampNeg (31 : Int32)) (59 : Int32)) (fun (z32 : Nat → Int32) => xr (32 : Int32) 47 (xl (upd z32 (Int32.toNatClampNeg (32 : Int32)) (99 : Int32)) (fun (z33 : Nat → Int32) => xr (33 : Int32) 47 (xl (upd z33 (Int32.toNatClampNeg (33 : Int32)) (50 : Int32)) (fun (z34 : Nat → Int32) => xr (34 : Int32) 47 (xl (upd z34 (Int32.toNatClampNeg (34 : Int32)) (59 : Int32)) (fun (z35 : Nat → Int32) => xr (35 : Int32) 47 (xl (upd z35 (Int32.toNatClampNeg (35 : Int32)) (99 : Int32)) (fun (z36 : Nat → Int32) => xr (36 : Int32) 47 (xl (upd z36 (Int32.toNatClampNeg (36 : Int32)) (51 : Int32)) (fun (z37 : Nat → Int32) => xr (37 : Int32) 47 (xl (upd z37 (Int32.toNatClampNeg (37 : Int32)) (59 : Int32)) (fun (z38 : Nat → Int32) => xr (38 : Int32) 47 (xl (upd z38 (Int32.toNatClampNeg (38 : Int32)) (107 : Int32)) (fun (z39 : Nat → Int32) => xr (39 : Int32) 47 (xl (upd z39 (Int32.toNatClampNeg (39 : Int32)) (50 : Int32)) (fun (z40 : Nat → Int32) => xr (40 : Int32) 47 (xl (upd z40 (Int32.toNatClampNeg (40 : Int32)) (59 : Int32)) (fun (z41 : Nat → Int32) => xr (41 : Int32) 47 (xl (upd z41 (Int32.toNatClampNeg (41 : Int32)) (107 : Int32)) (fun (z42 : Nat → Int32) => xr (42 : Int32) 47 (xl (upd z42 (Int32.toNatClampNeg (42 : Int32)) (48 : Int32)) (fun (z43 : Nat → Int32) => xr (43 : Int32) 47 (xl (upd z43 (Int32.toNatClampNeg (43 : Int32)) (59 : Int32)) (fun (z44 : Nat → Int32) => xr (44 : Int32) 47 (xl (upd z44 (Int32.toNatClampNeg (44 : Int32)) (107 : Int32)) (fun (z45 : Nat → Int32) => xr (45 : Int32) 47 (xl (upd z45 (Int32.toNatClampNeg (45 : Int32)) (53 : Int32)) (fun (z46 : Nat → Int32) => xr (46 : Int32) 47 (xl (upd z46 (Int32.toNatClampNeg (46 : Int32)) (59 : Int32)) (fun (z47 : Nat → Int32) => jf_M_init_420 N text letters mowers cows ricks weathers says words weather kindOf thatch newMowers newCows newRicks newWeathers newSays newWords newWeather newKind newThatch st pasts seen keeps z47 (0 : Int32) (fun q1 => jf_M_init_441 N q1 letters mowers cows ricks weathers says words weather kindOf thatch newMowers newCows newRicks newWeathers newSays newWords newWeather newKind newThatch st pasts seen keeps z47 )))))))))))))))))))))))))))))))))))))))))))))))))))))))))))))))))))))))))))))))))))))))))))))))
set_option maxHeartbeats 16000000 in
set_option maxRecDepth 100000 in
theorem jw_M_init2 {p : Program} {l : Launch} {e : Env} {s : State} {m : MethodId} {args : Array Value} {below : List Frame} {meth : Method} {c : Code} {A : Nat → Prop} {D : va_G} {cI cF : ClassId} (hC : hk_ok p s m args meth c A 3 D cI cF "HayTalkModel" jb_M_init) (hr : meth.sig.returnType = none) (N : Nat) (a w0 : Nat → Nat) (text : Nat → Int32) (letters : Int32) (mowers : Int32) (cows : Int32) (ricks : Int32) (weathers : Int32) (says : Nat → Int32) (words : Nat → Int32) (weather : Nat → Int32) (kindOf : Nat → Int32) (thatch : Nat → Int32) (newMowers : Int32) (newCows : Int32) (newRicks : Int32) (newWeathers : Int32) (newSays : Nat → Int32) (newWords : Nat → Int32) (newWeather : Nat → Int32) (newKind : Nat → Int32) (newThatch : Nat → Int32) (st : Nat → Int32) (pasts : Int32) (past : Nat → Int32) (aside : Nat → Int32) (seen : Int32) (seenWord : Nat → Int32) (seenHour : Nat → Int32) (keeps : Int32) (kept : Nat → Int32) (u0 : Nat → Int32) {o : (Nat → Int32) × Int32 × Int32 × Int32 × Int32 × Int32 × (Nat → Int32) × (Nat → Int32) × (Nat → Int32) × (Nat → Int32) × (Nat → Int32) × Int32 × Int32 × Int32 × Int32 × (Nat → Int32) × (Nat → Int32) × (Nat → Int32) × (Nat → Int32) × (Nat → Int32) × (Nat → Int32) × Int32 × Int32 × Int32 × (Nat → Int32)} (h : jf_M_init N text letters mowers cows ricks weathers says words weather kindOf thatch newMowers newCows newRicks newWeathers newSays newWords newWeather newKind newThatch st pasts seen keeps u0 = some o) : hk_W p l e jr_M_init s m args below meth c A (hk_Zx below args s D A (a 0) 18 1507 (fun a2 => wM cI a2 o.1 o.2.1 o.2.2.1 o.2.2.2.1 o.2.2.2.2.1 o.2.2.2.2.2.1 o.2.2.2.2.2.2.1 o.2.2.2.2.2.2.2.1 o.2.2.2.2.2.2.2.2.1 o.2.2.2.2.2.2.2.2.2.1 o.2.2.2.2.2.2.2.2.2.2.1 o.2.2.2.2.2.2.2.2.2.2.2.1 o.2.2.2.2.2.2.2.2.2.2.2.2.1 o.2.2.2.2.2.2.2.2.2.2.2.2.2.1 o.2.2.2.2.2.2.2.2.2.2.2.2.2.2.1 o.2.2.2.2.2.2.2.2.2.2.2.2.2.2.2.1 o.2.2.2.2.2.2.2.2.2.2.2.2.2.2.2.2.1 o.2.2.2.2.2.2.2.2.2.2.2.2.2.2.2.2.2.1 o.2.2.2.2.2.2.2.2.2.2.2.2.2.2.2.2.2.2.1 o.2.2.2.2.2.2.2.2.2.2.2.2.2.2.2.2.2.2.2.1 o.2.2.2.2.2.2.2.2.2.2.2.2.2.2.2.2.2.2.2.2.1 o.2.2.2.2.2.2.2.2.2.2.2.2.2.2.2.2.2.2.2.2.2.1 past aside o.2.2.2.2.2.2.2.2.2.2.2.2.2.2.2.2.2.2.2.2.2.2.1 seenWord seenHour o.2.2.2.2.2.2.2.2.2.2.2.2.2.2.2.2.2.2.2.2.2.2.2.1 kept)) 3 D 18 1507 ((wM cI a text letters mowers cows ricks weathers says words weather kindOf thatch newMowers newCows newRicks newWeathers newSays newWords newWeather newKind newThatch st pasts past aside seen seenWord seenHour keeps kept) ++ (wA cI w0 47 u0)) 141 [(0, .ref (a 0))] [.ref (w0 0)] := by
  have B_420 : ∀ (text : Nat → Int32) (letters : Int32) (mowers : Int32) (cows : Int32) (ricks : Int32) (weathers : Int32) (says : Nat → Int32) (words : Nat → Int32) (weather : Nat → Int32) (kindOf : Nat → Int32) (thatch : Nat → Int32) (newMowers : Int32) (newCows : Int32) (newRicks : Int32) (newWeathers : Int32) (newSays : Nat → Int32) (newWords : Nat → Int32) (newWeather : Nat → Int32) (newKind : Nat → Int32) (newThatch : Nat → Int32) (st : Nat → Int32) (pasts : Int32) (seen : Int32) (keeps : Int32) (u0 : Nat → Int32) (x2 : Int32) (kh420 : ((Nat → Int32) × Int32) → Option ((Nat → Int32) × Int32 × Int32 × Int32 × Int32 × Int32 × (Nat → Int32) × (Nat → Int32) × (Nat → Int32) × (Nat → Int32) × (Nat → Int32) × Int32 × Int32 × Int32 × Int32 × (Nat → Int32) × (Nat → Int32) × (Nat → Int32) × (Nat → Int32) × (Nat → Int32) × (Nat → Int32) × Int32 × Int32 × Int32 × (Nat → Int32))) (kx441 : ((Nat → Int32)) → Option ((Nat → Int32) × Int32 × Int32 × Int32 × Int32 × Int32 × (Nat → Int32) × (Nat → Int32) × (Nat → Int32) × (Nat → Int32) × (Nat → Int32) × Int32 × Int32 × Int32 × Int32 × (Nat → Int32) × (Nat → Int32) × (Nat → Int32) × (Nat → Int32) × (Nat → Int32) × (Nat → Int32) × Int32 × Int32 × Int32 × (Nat → Int32))) (ihh420 : ∀ q, kh420 q = some o → hk_W p l e jr_M_init s m args below meth c A (hk_Zx below args s D A (a 0) 18 1507 (fun a2 => wM cI a2 o.1 o.2.1 o.2.2.1 o.2.2.2.1 o.2.2.2.2.1 o.2.2.2.2.2.1 o.2.2.2.2.2.2.1 o.2.2.2.2.2.2.2.1 o.2.2.2.2.2.2.2.2.1 o.2.2.2.2.2.2.2.2.2.1 o.2.2.2.2.2.2.2.2.2.2.1 o.2.2.2.2.2.2.2.2.2.2.2.1 o.2.2.2.2.2.2.2.2.2.2.2.2.1 o.2.2.2.2.2.2.2.2.2.2.2.2.2.1 o.2.2.2.2.2.2.2.2.2.2.2.2.2.2.1 o.2.2.2.2.2.2.2.2.2.2.2.2.2.2.2.1 o.2.2.2.2.2.2.2.2.2.2.2.2.2.2.2.2.1 o.2.2.2.2.2.2.2.2.2.2.2.2.2.2.2.2.2.1 o.2.2.2.2.2.2.2.2.2.2.2.2.2.2.2.2.2.2.1 o.2.2.2.2.2.2.2.2.2.2.2.2.2.2.2.2.2.2.2.1 o.2.2.2.2.2.2.2.2.2.2.2.2.2.2.2.2.2.2.2.2.1 o.2.2.2.2.2.2.2.2.2.2.2.2.2.2.2.2.2.2.2.2.2.1 past aside o.2.2.2.2.2.2.2.2.2.2.2.2.2.2.2.2.2.2.2.2.2.2.1 seenWord seenHour o.2.2.2.2.2.2.2.2.2.2.2.2.2.2.2.2.2.2.2.2.2.2.2.1 kept)) 3 D 18 1507 ((wM cI a q.1 letters mowers cows ricks weathers says words weather kindOf thatch newMowers newCows newRicks newWeathers newSays newWords newWeather newKind newThatch st pasts past aside seen seenWord seenHour keeps kept) ++ (wA cI w0 47 u0)) 420 [(0, .ref (a 0)), (1, .ref (w0 0)), (2, .int q.2)] []) (ihx441 : ∀ q, kx441 q = some o → hk_W p l e jr_M_init s m args below meth c A (hk_Zx below args s D A (a 0) 18 1507 (fun a2 => wM cI a2 o.1 o.2.1 o.2.2.1 o.2.2.2.1 o.2.2.2.2.1 o.2.2.2.2.2.1 o.2.2.2.2.2.2.1 o.2.2.2.2.2.2.2.1 o.2.2.2.2.2.2.2.2.1 o.2.2.2.2.2.2.2.2.2.1 o.2.2.2.2.2.2.2.2.2.2.1 o.2.2.2.2.2.2.2.2.2.2.2.1 o.2.2.2.2.2.2.2.2.2.2.2.2.1 o.2.2.2.2.2.2.2.2.2.2.2.2.2.1 o.2.2.2.2.2.2.2.2.2.2.2.2.2.2.1 o.2.2.2.2.2.2.2.2.2.2.2.2.2.2.2.1 o.2.2.2.2.2.2.2.2.2.2.2.2.2.2.2.2.1 o.2.2.2.2.2.2.2.2.2.2.2.2.2.2.2.2.2.1 o.2.2.2.2.2.2.2.2.2.2.2.2.2.2.2.2.2.2.1 o.2.2.2.2.2.2.2.2.2.2.2.2.2.2.2.2.2.2.2.1 o.2.2.2.2.2.2.2.2.2.2.2.2.2.2.2.2.2.2.2.2.1 o.2.2.2.2.2.2.2.2.2.2.2.2.2.2.2.2.2.2.2.2.2.1 past aside o.2.2.2.2.2.2.2.2.2.2.2.2.2.2.2.2.2.2.2.2.2.2.1 seenWord seenHour o.2.2.2.2.2.2.2.2.2.2.2.2.2.2.2.2.2.2.2.2.2.2.2.1 kept)) 3 D 18 1507 ((wM cI a q letters mowers cows ricks weathers says words weather kindOf thatch newMowers newCows newRicks newWeathers newSays newWords newWeather newKind newThatch st pasts past aside seen seenWord seenHour keeps kept) ++ (wA cI w0 47 u0)) 441 [(0, .ref (a 0)), (1, .ref (w0 0))] []) (_ : jf_M_init_420B N text letters mowers cows ricks weathers says words weather kindOf thatch newMowers newCows newRicks newWeathers newSays newWords newWeather newKind newThatch st pasts seen keeps u0 x2 kh420 kx441 = some o), hk_W p l e jr_M_init s m args below meth c A (hk_Zx below args s D A (a 0) 18 1507 (fun a2 => wM cI a2 o.1 o.2.1 o.2.2.1 o.2.2.2.1 o.2.2.2.2.1 o.2.2.2.2.2.1 o.2.2.2.2.2.2.1 o.2.2.2.2.2.2.2.1 o.2.2.2.2.2.2.2.2.1 o.2.2.2.2.2.2.2.2.2.1 o.2.2.2.2.2.2.2.2.2.2.1 o.2.2.2.2.2.2.2.2.2.2.2.1 o.2.2.2.2.2.2.2.2.2.2.2.2.1 o.2.2.2.2.2.2.2.2.2.2.2.2.2.1 o.2.2.2.2.2.2.2.2.2.2.2.2.2.2.1 o.2.2.2.2.2.2.2.2.2.2.2.2.2.2.2.1 o.2.2.2.2.2.2.2.2.2.2.2.2.2.2.2.2.1 o.2.2.2.2.2.2.2.2.2.2.2.2.2.2.2.2.2.1 o.2.2.2.2.2.2.2.2.2.2.2.2.2.2.2.2.2.2.1 o.2.2.2.2.2.2.2.2.2.2.2.2.2.2.2.2.2.2.2.1 o.2.2.2.2.2.2.2.2.2.2.2.2.2.2.2.2.2.2.2.2.1 o.2.2.2.2.2.2.2.2.2.2.2.2.2.2.2.2.2.2.2.2.2.1 past aside o.2.2.2.2.2.2.2.2.2.2.2.2.2.2.2.2.2.2.2.2.2.2.1 seenWord seenHour o.2.2.2.2.2.2.2.2.2.2.2.2.2.2.2.2.2.2.2.2.2.2.2.1 kept)) 3 D 18 1507 ((wM cI a text letters mowers cows ricks weathers says words weather kindOf thatch newMowers newCows newRicks newWeathers newSays newWords newWeather newKind newThatch st pasts past aside seen seenWord seenHour keeps kept) ++ (wA cI w0 47 u0)) 420 [(0, .ref (a 0)), (1, .ref (w0 0)), (2, .int x2)] [] := by
    intro text letters mowers cows ricks weathers says words weather kindOf thatch newMowers newCows newRicks newWeathers newSays newWords newWeather newKind newThatch st pasts seen keeps u0 x2 kh420 kx441 ihh420 ihx441 h
    delta jf_M_init_420B at h
    refine hk_iload_n hC jd_M_init_420 2 rfl ?_
    refine hk_aload_n hC jd_M_init_421 1 rfl ?_
    refine hk_alen hC 18 rfl jd_M_init_422 ?_
    refine hk_icmp_ge (tgt := 441) hC jd_M_init_423 (by decide) (fun cc1 => ?_) (fun cc1 => ?_)
    · replace h := xi_t h cc1
      exact hk_lv [0, 1] rfl (ihx441 text h)
    · replace h := xi_f h cc1
      refine hk_aload_n hC jd_M_init_426 0 rfl ?_
      refine hk_get hC jk_M 0 rfl 0 (by decide) jq_698 rfl jd_M_init_427 ?_
      refine hk_iload_n hC jd_M_init_430 2 rfl ?_
      refine hk_aload_n hC jd_M_init_431 1 rfl ?_
      refine hk_iload_n hC jd_M_init_432 2 rfl ?_
      have hr1 := xr_in h
      replace h := xr_go h
      refine hk_iald hC 18 rfl hr1 jd_M_init_433 ?_
      have hr2 := xr_in h
      replace h := xr_go h
      obtain ⟨z1, e_z1, h⟩ := xl_go h
      refine hk_iast hC 1 rfl hr2 e_z1 (ws2 := ((wM cI a z1 letters mowers cows ricks weathers says words weather kindOf thatch newMowers newCows newRicks newWeathers newSays newWords newWeather newKind newThatch st pasts past aside seen seenWord seenHour keeps kept) ++ (wA cI w0 47 u0))) rfl jd_M_init_434 ?_
      obtain ⟨v1, e_v1, h⟩ := xl_go h
      refine hk_iinc hC (lv2 := [(2, .int v1), (0, .ref (a 0)), (1, .ref (w0 0))]) jd_M_init_435 2 rfl e_v1 (by decide) rfl ?_
      refine hk_goto (tgt := 420) hC jd_M_init_438 (by decide) ?_
      exact hk_lv [1, 2, 0] rfl (ihh420 (z1, v1) h)
  have L_420 : ∀ (text : Nat → Int32) (letters : Int32) (mowers : Int32) (cows : Int32) (ricks : Int32) (weathers : Int32) (says : Nat → Int32) (words : Nat → Int32) (weather : Nat → Int32) (kindOf : Nat → Int32) (thatch : Nat → Int32) (newMowers : Int32) (newCows : Int32) (newRicks : Int32) (newWeathers : Int32) (newSays : Nat → Int32) (newWords : Nat → Int32) (newWeather : Nat → Int32) (newKind : Nat → Int32) (newThatch : Nat → Int32) (st : Nat → Int32) (pasts : Int32) (seen : Int32) (keeps : Int32) (u0 : Nat → Int32) (x2 : Int32) (kx441 : ((Nat → Int32)) → Option ((Nat → Int32) × Int32 × Int32 × Int32 × Int32 × Int32 × (Nat → Int32) × (Nat → Int32) × (Nat → Int32) × (Nat → Int32) × (Nat → Int32) × Int32 × Int32 × Int32 × Int32 × (Nat → Int32) × (Nat → Int32) × (Nat → Int32) × (Nat → Int32) × (Nat → Int32) × (Nat → Int32) × Int32 × Int32 × Int32 × (Nat → Int32))) (ihx441 : ∀ q, kx441 q = some o → hk_W p l e jr_M_init s m args below meth c A (hk_Zx below args s D A (a 0) 18 1507 (fun a2 => wM cI a2 o.1 o.2.1 o.2.2.1 o.2.2.2.1 o.2.2.2.2.1 o.2.2.2.2.2.1 o.2.2.2.2.2.2.1 o.2.2.2.2.2.2.2.1 o.2.2.2.2.2.2.2.2.1 o.2.2.2.2.2.2.2.2.2.1 o.2.2.2.2.2.2.2.2.2.2.1 o.2.2.2.2.2.2.2.2.2.2.2.1 o.2.2.2.2.2.2.2.2.2.2.2.2.1 o.2.2.2.2.2.2.2.2.2.2.2.2.2.1 o.2.2.2.2.2.2.2.2.2.2.2.2.2.2.1 o.2.2.2.2.2.2.2.2.2.2.2.2.2.2.2.1 o.2.2.2.2.2.2.2.2.2.2.2.2.2.2.2.2.1 o.2.2.2.2.2.2.2.2.2.2.2.2.2.2.2.2.2.1 o.2.2.2.2.2.2.2.2.2.2.2.2.2.2.2.2.2.2.1 o.2.2.2.2.2.2.2.2.2.2.2.2.2.2.2.2.2.2.2.1 o.2.2.2.2.2.2.2.2.2.2.2.2.2.2.2.2.2.2.2.2.1 o.2.2.2.2.2.2.2.2.2.2.2.2.2.2.2.2.2.2.2.2.2.1 past aside o.2.2.2.2.2.2.2.2.2.2.2.2.2.2.2.2.2.2.2.2.2.2.1 seenWord seenHour o.2.2.2.2.2.2.2.2.2.2.2.2.2.2.2.2.2.2.2.2.2.2.2.1 kept)) 3 D 18 1507 ((wM cI a q letters mowers cows ricks weathers says words weather kindOf thatch newMowers newCows newRicks newWeathers newSays newWords newWeather newKind newThatch st pasts past aside seen seenWord seenHour keeps kept) ++ (wA cI w0 47 u0)) 441 [(0, .ref (a 0)), (1, .ref (w0 0))] []) (_ : jf_M_init_420 N text letters mowers cows ricks weathers says words weather kindOf thatch newMowers newCows newRicks newWeathers newSays newWords newWeather newKind newThatch st pasts seen keeps u0 x2 kx441 = some o), hk_W p l e jr_M_init s m args below meth c A (hk_Zx below args s D A (a 0) 18 1507 (fun a2 => wM cI a2 o.1 o.2.1 o.2.2.1 o.2.2.2.1 o.2.2.2.2.1 o.2.2.2.2.2.1 o.2.2.2.2.2.2.1 o.2.2.2.2.2.2.2.1 o.2.2.2.2.2.2.2.2.1 o.2.2.2.2.2.2.2.2.2.1 o.2.2.2.2.2.2.2.2.2.2.1 o.2.2.2.2.2.2.2.2.2.2.2.1 o.2.2.2.2.2.2.2.2.2.2.2.2.1 o.2.2.2.2.2.2.2.2.2.2.2.2.2.1 o.2.2.2.2.2.2.2.2.2.2.2.2.2.2.1 o.2.2.2.2.2.2.2.2.2.2.2.2.2.2.2.1 o.2.2.2.2.2.2.2.2.2.2.2.2.2.2.2.2.1 o.2.2.2.2.2.2.2.2.2.2.2.2.2.2.2.2.2.1 o.2.2.2.2.2.2.2.2.2.2.2.2.2.2.2.2.2.2.1 o.2.2.2.2.2.2.2.2.2.2.2.2.2.2.2.2.2.2.2.1 o.2.2.2.2.2.2.2.2.2.2.2.2.2.2.2.2.2.2.2.2.1 o.2.2.2.2.2.2.2.2.2.2.2.2.2.2.2.2.2.2.2.2.2.1 past aside o.2.2.2.2.2.2.2.2.2.2.2.2.2.2.2.2.2.2.2.2.2.2.1 seenWord seenHour o.2.2.2.2.2.2.2.2.2.2.2.2.2.2.2.2.2.2.2.2.2.2.2.1 kept)) 3 D 18 1507 ((wM cI a text letters mowers cows ricks weathers says words weather kindOf thatch newMowers newCows newRicks newWeathers newSays newWords newWeather newKind newThatch st pasts past aside seen seenWord seenHour keeps kept) ++ (wA cI w0 47 u0)) 420 [(0, .ref (a 0)), (1, .ref (w0 0)), (2, .int x2)] [] := by
    intro text letters mowers cows ricks weathers says words weather kindOf thatch newMowers newCows newRicks newWeathers newSays newWords newWeather newKind newThatch st pasts seen keeps u0 x2 kx441 ihx441 h
    exact xloopW (fun (q : (Nat → Int32) × Int32) => hk_W p l e jr_M_init s m args below meth c A (hk_Zx below args s D A (a 0) 18 1507 (fun a2 => wM cI a2 o.1 o.2.1 o.2.2.1 o.2.2.2.1 o.2.2.2.2.1 o.2.2.2.2.2.1 o.2.2.2.2.2.2.1 o.2.2.2.2.2.2.2.1 o.2.2.2.2.2.2.2.2.1 o.2.2.2.2.2.2.2.2.2.1 o.2.2.2.2.2.2.2.2.2.2.1 o.2.2.2.2.2.2.2.2.2.2.2.1 o.2.2.2.2.2.2.2.2.2.2.2.2.1 o.2.2.2.2.2.2.2.2.2.2.2.2.2.1 o.2.2.2.2.2.2.2.2.2.2.2.2.2.2.1 o.2.2.2.2.2.2.2.2.2.2.2.2.2.2.2.1 o.2.2.2.2.2.2.2.2.2.2.2.2.2.2.2.2.1 o.2.2.2.2.2.2.2.2.2.2.2.2.2.2.2.2.2.1 o.2.2.2.2.2.2.2.2.2.2.2.2.2.2.2.2.2.2.1 o.2.2.2.2.2.2.2.2.2.2.2.2.2.2.2.2.2.2.2.1 o.2.2.2.2.2.2.2.2.2.2.2.2.2.2.2.2.2.2.2.2.1 o.2.2.2.2.2.2.2.2.2.2.2.2.2.2.2.2.2.2.2.2.2.1 past aside o.2.2.2.2.2.2.2.2.2.2.2.2.2.2.2.2.2.2.2.2.2.2.1 seenWord seenHour o.2.2.2.2.2.2.2.2.2.2.2.2.2.2.2.2.2.2.2.2.2.2.2.1 kept)) 3 D 18 1507 ((wM cI a q.1 letters mowers cows ricks weathers says words weather kindOf thatch newMowers newCows newRicks newWeathers newSays newWords newWeather newKind newThatch st pasts past aside seen seenWord seenHour keeps kept) ++ (wA cI w0 47 u0)) 420 [(0, .ref (a 0)), (1, .ref (w0 0)), (2, .int q.2)] []) (fun kh ih q h => B_420 q.1 letters mowers cows ricks weathers says words weather kindOf thatch newMowers newCows newRicks newWeathers newSays newWords newWeather newKind newThatch st pasts seen keeps u0 q.2 kh kx441 ih ihx441 h) N (text, x2) h
  have B_441 : ∀ (text : Nat → Int32) (letters : Int32) (mowers : Int32) (cows : Int32) (ricks : Int32) (weathers : Int32) (says : Nat → Int32) (words : Nat → Int32) (weather : Nat → Int32) (kindOf : Nat → Int32) (thatch : Nat → Int32) (newMowers : Int32) (newCows : Int32) (newRicks : Int32) (newWeathers : Int32) (newSays : Nat → Int32) (newWords : Nat → Int32) (newWeather : Nat → Int32) (newKind : Nat → Int32) (newThatch : Nat → Int32) (st : Nat → Int32) (pasts : Int32) (seen : Int32) (keeps : Int32) (u0 : Nat → Int32)   (_ : jf_M_init_441 N text letters mowers cows ricks weathers says words weather kindOf thatch newMowers newCows newRicks newWeathers newSays newWords newWeather newKind newThatch st pasts seen keeps u0  = some o), hk_W p l e jr_M_init s m args below meth c A (hk_Zx below args s D A (a 0) 18 1507 (fun a2 => wM cI a2 o.1 o.2.1 o.2.2.1 o.2.2.2.1 o.2.2.2.2.1 o.2.2.2.2.2.1 o.2.2.2.2.2.2.1 o.2.2.2.2.2.2.2.1 o.2.2.2.2.2.2.2.2.1 o.2.2.2.2.2.2.2.2.2.1 o.2.2.2.2.2.2.2.2.2.2.1 o.2.2.2.2.2.2.2.2.2.2.2.1 o.2.2.2.2.2.2.2.2.2.2.2.2.1 o.2.2.2.2.2.2.2.2.2.2.2.2.2.1 o.2.2.2.2.2.2.2.2.2.2.2.2.2.2.1 o.2.2.2.2.2.2.2.2.2.2.2.2.2.2.2.1 o.2.2.2.2.2.2.2.2.2.2.2.2.2.2.2.2.1 o.2.2.2.2.2.2.2.2.2.2.2.2.2.2.2.2.2.1 o.2.2.2.2.2.2.2.2.2.2.2.2.2.2.2.2.2.2.1 o.2.2.2.2.2.2.2.2.2.2.2.2.2.2.2.2.2.2.2.1 o.2.2.2.2.2.2.2.2.2.2.2.2.2.2.2.2.2.2.2.2.1 o.2.2.2.2.2.2.2.2.2.2.2.2.2.2.2.2.2.2.2.2.2.1 past aside o.2.2.2.2.2.2.2.2.2.2.2.2.2.2.2.2.2.2.2.2.2.2.1 seenWord seenHour o.2.2.2.2.2.2.2.2.2.2.2.2.2.2.2.2.2.2.2.2.2.2.2.1 kept)) 3 D 18 1507 ((wM cI a text letters mowers cows ricks weathers says words weather kindOf thatch newMowers newCows newRicks newWeathers newSays newWords newWeather newKind newThatch st pasts past aside seen seenWord seenHour keeps kept) ++ (wA cI w0 47 u0)) 441 [(0, .ref (a 0)), (1, .ref (w0 0))] [] := by
    intro text letters mowers cows ricks weathers says words weather kindOf thatch newMowers newCows newRicks newWeathers newSays newWords newWeather newKind newThatch st pasts seen keeps u0   h
    delta jf_M_init_441 at h
    refine hk_aload_n hC jd_M_init_441 0 rfl ?_
    refine hk_aload_n hC jd_M_init_442 1 rfl ?_
    refine hk_alen hC 18 rfl jd_M_init_443 ?_
    obtain ⟨v1, e_v1, h⟩ := xl_go h
    refine hk_topi e_v1 ?_
    refine hk_put hC jk_M 0 rfl 1 (by decide) jq_699 rfl rfl rfl (Nat.le_of_ble_eq_true rfl) (ws2 := ((wM cI a text v1 mowers cows ricks weathers says words weather kindOf thatch newMowers newCows newRicks newWeathers newSays newWords newWeather newKind newThatch st pasts past aside seen seenWord seenHour keeps kept) ++ (wA cI w0 47 u0))) rfl jd_M_init_444 ?_
    refine hk_aload_n hC jd_M_init_447 0 rfl ?_
    obtain ⟨q1, h_q1, h⟩ := xb_go h
    refine hk_callVi hC (q0 := 0) (jc_M_lay l D cI cF N a text v1 mowers cows ricks weathers says words weather kindOf thatch newMowers newCows newRicks newWeathers newSays newWords newWeather newKind newThatch st pasts past aside seen seenWord seenHour keeps kept h_q1) jl_M_lay rfl rfl jq_652 jq_653 jq_654 rfl ⟨by decide, by decide⟩ [0, 1, 2, 3, 4, 5, 6, 7, 8, 9, 10, 11, 12, 13, 14, 15, 16, 17] rfl (by decide +kernel) rfl (ws2 := ((wM cI a text v1 q1.2.1 q1.2.2.1 q1.2.2.2.1 q1.2.2.2.2.1 q1.2.2.2.2.2.1 q1.2.2.2.2.2.2.1 q1.2.2.2.2.2.2.2.1 q1.2.2.2.2.2.2.2.2.1 q1.2.2.2.2.2.2.2.2.2.1 q1.2.2.2.2.2.2.2.2.2.2.1 q1.2.2.2.2.2.2.2.2.2.2.2.1 q1.2.2.2.2.2.2.2.2.2.2.2.2.1 q1.2.2.2.2.2.2.2.2.2.2.2.2.2.1 q1.2.2.2.2.2.2.2.2.2.2.2.2.2.2.1 q1.2.2.2.2.2.2.2.2.2.2.2.2.2.2.2.1 q1.2.2.2.2.2.2.2.2.2.2.2.2.2.2.2.2.1 q1.2.2.2.2.2.2.2.2.2.2.2.2.2.2.2.2.2.1 q1.2.2.2.2.2.2.2.2.2.2.2.2.2.2.2.2.2.2.1 q1.2.2.2.2.2.2.2.2.2.2.2.2.2.2.2.2.2.2.2.1 q1.2.2.2.2.2.2.2.2.2.2.2.2.2.2.2.2.2.2.2.2.1 past aside q1.2.2.2.2.2.2.2.2.2.2.2.2.2.2.2.2.2.2.2.2.2.1 seenWord seenHour q1.2.2.2.2.2.2.2.2.2.2.2.2.2.2.2.2.2.2.2.2.2.2 kept) ++ (wA cI w0 47 u0))) rfl rfl (Nat.le_of_ble_eq_true rfl) ⟨Nat.le_of_ble_eq_true rfl, Nat.le_of_ble_eq_true rfl⟩ jd_M_init_448 ?_
    refine hk_pop hC jd_M_init_451 rfl ?_
    refine hk_aload_n hC jd_M_init_452 0 rfl ?_
    refine hk_iconst (v := 0) hC jd_M_init_453 (by decide) ?_
    refine hk_put hC jk_M 0 rfl 1 (by decide) jq_699 rfl rfl rfl (Nat.le_of_ble_eq_true rfl) (ws2 := ((wM cI a text (0 : Int32) q1.2.1 q1.2.2.1 q1.2.2.2.1 q1.2.2.2.2.1 q1.2.2.2.2.2.1 q1.2.2.2.2.2.2.1 q1.2.2.2.2.2.2.2.1 q1.2.2.2.2.2.2.2.2.1 q1.2.2.2.2.2.2.2.2.2.1 q1.2.2.2.2.2.2.2.2.2.2.1 q1.2.2.2.2.2.2.2.2.2.2.2.1 q1.2.2.2.2.2.2.2.2.2.2.2.2.1 q1.2.2.2.2.2.2.2.2.2.2.2.2.2.1 q1.2.2.2.2.2.2.2.2.2.2.2.2.2.2.1 q1.2.2.2.2.2.2.2.2.2.2.2.2.2.2.2.1 q1.2.2.2.2.2.2.2.2.2.2.2.2.2.2.2.2.1 q1.2.2.2.2.2.2.2.2.2.2.2.2.2.2.2.2.2.1 q1.2.2.2.2.2.2.2.2.2.2.2.2.2.2.2.2.2.2.1 q1.2.2.2.2.2.2.2.2.2.2.2.2.2.2.2.2.2.2.2.1 q1.2.2.2.2.2.2.2.2.2.2.2.2.2.2.2.2.2.2.2.2.1 past aside q1.2.2.2.2.2.2.2.2.2.2.2.2.2.2.2.2.2.2.2.2.2.1 seenWord seenHour q1.2.2.2.2.2.2.2.2.2.2.2.2.2.2.2.2.2.2.2.2.2.2 kept) ++ (wA cI w0 47 u0))) rfl jd_M_init_454 ?_
    obtain rfl := Option.some.inj h
    exact hk_cret hC hr jd_M_init_457 a rfl (wr := _) (List.Perm.refl _)
  delta jf_M_init at h
  refine hk_dup hC jd_M_init_141 rfl ?_
  refine hk_iconst (v := 0) hC jd_M_init_142 (by decide) ?_
  refine hk_bipush (v := 109) hC jd_M_init_143 (by decide) ?_
  have hr1 := xr_in h
  replace h := xr_go h
  obtain ⟨z1, e_z1, h⟩ := xl_go h
  refine hk_iast hC 18 rfl hr1 e_z1 (ws2 := ((wM cI a text letters mowers cows ricks weathers says words weather kindOf thatch newMowers newCows newRicks newWeathers newSays newWords newWeather newKind newThatch st pasts past aside seen seenWord seenHour keeps kept) ++ (wA cI w0 47 z1))) rfl jd_M_init_145 ?_
  refine hk_dup hC jd_M_init_146 rfl ?_
  refine hk_iconst (v := 1) hC jd_M_init_147 (by decide) ?_
  refine hk_bipush (v := 51) hC jd_M_init_148 (by decide) ?_
  have hr2 := xr_in h
  replace h := xr_go h
  obtain ⟨z2, e_z2, h⟩ := xl_go h
  refine hk_iast hC 18 rfl hr2 e_z2 (ws2 := ((wM cI a text letters mowers cows ricks weathers says words weather kindOf thatch newMowers newCows newRicks newWeathers newSays newWords newWeather newKind newThatch st pasts past aside seen seenWord seenHour keeps kept) ++ (wA cI w0 47 z2))) rfl jd_M_init_150 ?_
  refine hk_dup hC jd_M_init_151 rfl ?_
  refine hk_iconst (v := 2) hC jd_M_init_152 (by decide) ?_
  refine hk_bipush (v := 49) hC jd_M_init_153 (by decide) ?_
  have hr3 := xr_in h
  replace h := xr_go h
  obtain ⟨z3, e_z3, h⟩ := xl_go h
  refine hk_iast hC 18 rfl hr3 e_z3 (ws2 := ((wM cI a text letters mowers cows ricks weathers says words weather kindOf thatch newMowers newCows newRicks newWeathers newSays newWords newWeather newKind newThatch st pasts past aside seen seenWord seenHour keeps kept) ++ (wA cI w0 47 z3))) rfl jd_M_init_155 ?_
  refine hk_dup hC jd_M_init_156 rfl ?_
  refine hk_iconst (v := 3) hC jd_M_init_157 (by decide) ?_
  refine hk_bipush (v := 52) hC jd_M_init_158 (by decide) ?_
  have hr4 := xr_in h
  replace h := xr_go h
  obtain ⟨z4, e_z4, h⟩ := xl_go h
  refine hk_iast hC 18 rfl hr4 e_z4 (ws2 := ((wM cI a text letters mowers cows ricks weathers says words weather kindOf thatch newMowers newCows newRicks newWeathers newSays newWords newWeather newKind newThatch st pasts past aside seen seenWord seenHour keeps kept) ++ (wA cI w0 47 z4))) rfl jd_M_init_160 ?_
  refine hk_dup hC jd_M_init_161 rfl ?_
  refine hk_iconst (v := 4) hC jd_M_init_162 (by decide) ?_
  refine hk_bipush (v := 59) hC jd_M_init_163 (by decide) ?_
  have hr5 := xr_in h
  replace h := xr_go h
  obtain ⟨z5, e_z5, h⟩ := xl_go h
  refine hk_iast hC 18 rfl hr5 e_z5 (ws2 := ((wM cI a text letters mowers cows ricks weathers says words weather kindOf thatch newMowers newCows newRicks newWeathers newSays newWords newWeather newKind newThatch st pasts past aside seen seenWord seenHour keeps kept) ++ (wA cI w0 47 z5))) rfl jd_M_init_165 ?_
  refine hk_dup hC jd_M_init_166 rfl ?_
  refine hk_iconst (v := 5) hC jd_M_init_167 (by decide) ?_
  refine hk_bipush (v := 109) hC jd_M_init_168 (by decide) ?_
  have hr6 := xr_in h
  replace h := xr_go h
  obtain ⟨z6, e_z6, h⟩ := xl_go h
  refine hk_iast hC 18 rfl hr6 e_z6 (ws2 := ((wM cI a text letters mowers cows ricks weathers says words weather kindOf thatch newMowers newCows newRicks newWeathers newSays newWords newWeather newKind newThatch st pasts past aside seen seenWord seenHour keeps kept) ++ (wA cI w0 47 z6))) rfl jd_M_init_170 ?_
  refine hk_dup hC jd_M_init_171 rfl ?_
  refine hk_bipush (v := 6) hC jd_M_init_172 (by decide) ?_
  refine hk_bipush (v := 50) hC jd_M_init_174 (by decide) ?_
  have hr7 := xr_in h
  replace h := xr_go h
  obtain ⟨z7, e_z7, h⟩ := xl_go h
  refine hk_iast hC 18 rfl hr7 e_z7 (ws2 := ((wM cI a text letters mowers cows ricks weathers says words weather kindOf thatch newMowers newCows newRicks newWeathers newSays newWords newWeather newKind newThatch st pasts past aside seen seenWord seenHour keeps kept) ++ (wA cI w0 47 z7))) rfl jd_M_init_176 ?_
  refine hk_dup hC jd_M_init_177 rfl ?_
  refine hk_bipush (v := 7) hC jd_M_init_178 (by decide) ?_
  refine hk_bipush (v := 55) hC jd_M_init_180 (by decide) ?_
  have hr8 := xr_in h
  replace h := xr_go h
  obtain ⟨z8, e_z8, h⟩ := xl_go h
  refine hk_iast hC 18 rfl hr8 e_z8 (ws2 := ((wM cI a text letters mowers cows ricks weathers says words weather kindOf thatch newMowers newCows newRicks newWeathers newSays newWords newWeather newKind newThatch st pasts past aside seen seenWord seenHour keeps kept) ++ (wA cI w0 47 z8))) rfl jd_M_init_182 ?_
  refine hk_dup hC jd_M_init_183 rfl ?_
  refine hk_bipush (v := 8) hC jd_M_init_184 (by decide) ?_
  refine hk_bipush (v := 49) hC jd_M_init_186 (by decide) ?_
  have hr9 := xr_in h
  replace h := xr_go h
  obtain ⟨z9, e_z9, h⟩ := xl_go h
  refine hk_iast hC 18 rfl hr9 e_z9 (ws2 := ((wM cI a text letters mowers cows ricks weathers says words weather kindOf thatch newMowers newCows newRicks newWeathers newSays newWords newWeather newKind newThatch st pasts past aside seen seenWord seenHour keeps kept) ++ (wA cI w0 47 z9))) rfl jd_M_init_188 ?_
  refine hk_dup hC jd_M_init_189 rfl ?_
  refine hk_bipush (v := 9) hC jd_M_init_190 (by decide) ?_
  refine hk_bipush (v := 56) hC jd_M_init_192 (by decide) ?_
  have hr10 := xr_in h
  replace h := xr_go h
  obtain ⟨z10, e_z10, h⟩ := xl_go h
  refine hk_iast hC 18 rfl hr10 e_z10 (ws2 := ((wM cI a text letters mowers cows ricks weathers says words weather kindOf thatch newMowers newCows newRicks newWeathers newSays newWords newWeather newKind newThatch st pasts past aside seen seenWord seenHour keeps kept) ++ (wA cI w0 47 z10))) rfl jd_M_init_194 ?_
  refine hk_dup hC jd_M_init_195 rfl ?_
  refine hk_bipush (v := 10) hC jd_M_init_196 (by decide) ?_
  refine hk_bipush (v := 59) hC jd_M_init_198 (by decide) ?_
  have hr11 := xr_in h
  replace h := xr_go h
  obtain ⟨z11, e_z11, h⟩ := xl_go h
  refine hk_iast hC 18 rfl hr11 e_z11 (ws2 := ((wM cI a text letters mowers cows ricks weathers says words weather kindOf thatch newMowers newCows newRicks newWeathers newSays newWords newWeather newKind newThatch st pasts past aside seen seenWord seenHour keeps kept) ++ (wA cI w0 47 z11))) rfl jd_M_init_200 ?_
  refine hk_dup hC jd_M_init_201 rfl ?_
  refine hk_bipush (v := 11) hC jd_M_init_202 (by decide) ?_
  refine hk_bipush (v := 109) hC jd_M_init_204 (by decide) ?_
  have hr12 := xr_in h
  replace h := xr_go h
  obtain ⟨z12, e_z12, h⟩ := xl_go h
  refine hk_iast hC 18 rfl hr12 e_z12 (ws2 := ((wM cI a text letters mowers cows ricks weathers says words weather kindOf thatch newMowers newCows newRicks newWeathers newSays newWords newWeather newKind newThatch st pasts past aside seen seenWord seenHour keeps kept) ++ (wA cI w0 47 z12))) rfl jd_M_init_206 ?_
  refine hk_dup hC jd_M_init_207 rfl ?_
  refine hk_bipush (v := 12) hC jd_M_init_208 (by decide) ?_
  refine hk_bipush (v := 53) hC jd_M_init_210 (by decide) ?_
  have hr13 := xr_in h
  replace h := xr_go h
  obtain ⟨z13, e_z13, h⟩ := xl_go h
  refine hk_iast hC 18 rfl hr13 e_z13 (ws2 := ((wM cI a text letters mowers cows ricks weathers says words weather kindOf thatch newMowers newCows newRicks newWeathers newSays newWords newWeather newKind newThatch st pasts past aside seen seenWord seenHour keeps kept) ++ (wA cI w0 47 z13))) rfl jd_M_init_212 ?_
  refine hk_dup hC jd_M_init_213 rfl ?_
  refine hk_bipush (v := 13) hC jd_M_init_214 (by decide) ?_
  refine hk_bipush (v := 59) hC jd_M_init_216 (by decide) ?_
  have hr14 := xr_in h
  replace h := xr_go h
  obtain ⟨z14, e_z14, h⟩ := xl_go h
  refine hk_iast hC 18 rfl hr14 e_z14 (ws2 := ((wM cI a text letters mowers cows ricks weathers says words weather kindOf thatch newMowers newCows newRicks newWeathers newSays newWords newWeather newKind newThatch st pasts past aside seen seenWord seenHour keeps kept) ++ (wA cI w0 47 z14))) rfl jd_M_init_218 ?_
  refine hk_dup hC jd_M_init_219 rfl ?_
  refine hk_bipush (v := 14) hC jd_M_init_220 (by decide) ?_
  refine hk_bipush (v := 109) hC jd_M_init_222 (by decide) ?_
  have hr15 := xr_in h
  replace h := xr_go h
  obtain ⟨z15, e_z15, h⟩ := xl_go h
  refine hk_iast hC 18 rfl hr15 e_z15 (ws2 := ((wM cI a text letters mowers cows ricks weathers says words weather kindOf thatch newMowers newCows newRicks newWeathers newSays newWords newWeather newKind newThatch st pasts past aside seen seenWord seenHour keeps kept) ++ (wA cI w0 47 z15))) rfl jd_M_init_224 ?_
  refine hk_dup hC jd_M_init_225 rfl ?_
  refine hk_bipush (v := 15) hC jd_M_init_226 (by decide) ?_
  refine hk_bipush (v := 57) hC jd_M_init_228 (by decide) ?_
  have hr16 := xr_in h
  replace h := xr_go h
  obtain ⟨z16, e_z16, h⟩ := xl_go h
  refine hk_iast hC 18 rfl hr16 e_z16 (ws2 := ((wM cI a text letters mowers cows ricks weathers says words weather kindOf thatch newMowers newCows newRicks newWeathers newSays newWords newWeather newKind newThatch st pasts past aside seen seenWord seenHour keeps kept) ++ (wA cI w0 47 z16))) rfl jd_M_init_230 ?_
  refine hk_dup hC jd_M_init_231 rfl ?_
  refine hk_bipush (v := 16) hC jd_M_init_232 (by decide) ?_
  refine hk_bipush (v := 57) hC jd_M_init_234 (by decide) ?_
  have hr17 := xr_in h
  replace h := xr_go h
  obtain ⟨z17, e_z17, h⟩ := xl_go h
  refine hk_iast hC 18 rfl hr17 e_z17 (ws2 := ((wM cI a text letters mowers cows ricks weathers says words weather kindOf thatch newMowers newCows newRicks newWeathers newSays newWords newWeather newKind newThatch st pasts past aside seen seenWord seenHour keeps kept) ++ (wA cI w0 47 z17))) rfl jd_M_init_236 ?_
  refine hk_dup hC jd_M_init_237 rfl ?_
  refine hk_bipush (v := 17) hC jd_M_init_238 (by decide) ?_
  refine hk_bipush (v := 48) hC jd_M_init_240 (by decide) ?_
  have hr18 := xr_in h
  replace h := xr_go h
  obtain ⟨z18, e_z18, h⟩ := xl_go h
  refine hk_iast hC 18 rfl hr18 e_z18 (ws2 := ((wM cI a text letters mowers cows ricks weathers says words weather kindOf thatch newMowers newCows newRicks newWeathers newSays newWords newWeather newKind newThatch st pasts past aside seen seenWord seenHour keeps kept) ++ (wA cI w0 47 z18))) rfl jd_M_init_242 ?_
  refine hk_dup hC jd_M_init_243 rfl ?_
  refine hk_bipush (v := 18) hC jd_M_init_244 (by decide) ?_
  refine hk_bipush (v := 50) hC jd_M_init_246 (by decide) ?_
  have hr19 := xr_in h
  replace h := xr_go h
  obtain ⟨z19, e_z19, h⟩ := xl_go h
  refine hk_iast hC 18 rfl hr19 e_z19 (ws2 := ((wM cI a text letters mowers cows ricks weathers says words weather kindOf thatch newMowers newCows newRicks newWeathers newSays newWords newWeather newKind newThatch st pasts past aside seen seenWord seenHour keeps kept) ++ (wA cI w0 47 z19))) rfl jd_M_init_248 ?_
  refine hk_dup hC jd_M_init_249 rfl ?_
  refine hk_bipush (v := 19) hC jd_M_init_250 (by decide) ?_
  refine hk_bipush (v := 59) hC jd_M_init_252 (by decide) ?_
  have hr20 := xr_in h
  replace h := xr_go h
  obtain ⟨z20, e_z20, h⟩ := xl_go h
  refine hk_iast hC 18 rfl hr20 e_z20 (ws2 := ((wM cI a text letters mowers cows ricks weathers says words weather kindOf thatch newMowers newCows newRicks newWeathers newSays newWords newWeather newKind newThatch st pasts past aside seen seenWord seenHour keeps kept) ++ (wA cI w0 47 z20))) rfl jd_M_init_254 ?_
  refine hk_dup hC jd_M_init_255 rfl ?_
  refine hk_bipush (v := 20) hC jd_M_init_256 (by decide) ?_
  refine hk_bipush (v := 101) hC jd_M_init_258 (by decide) ?_
  have hr21 := xr_in h
  replace h := xr_go h
  obtain ⟨z21, e_z21, h⟩ := xl_go h
  refine hk_iast hC 18 rfl hr21 e_z21 (ws2 := ((wM cI a text letters mowers cows ricks weathers says words weather kindOf thatch newMowers newCows newRicks newWeathers newSays newWords newWeather newKind newThatch st pasts past aside seen seenWord seenHour keeps kept) ++ (wA cI w0 47 z21))) rfl jd_M_init_260 ?_
  refine hk_dup hC jd_M_init_261 rfl ?_
  refine hk_bipush (v := 21) hC jd_M_init_262 (by decide) ?_
  refine hk_bipush (v := 48) hC jd_M_init_264 (by decide) ?_
  have hr22 := xr_in h
  replace h := xr_go h
  obtain ⟨z22, e_z22, h⟩ := xl_go h
  refine hk_iast hC 18 rfl hr22 e_z22 (ws2 := ((wM cI a text letters mowers cows ricks weathers says words weather kindOf thatch newMowers newCows newRicks newWeathers newSays newWords newWeather newKind newThatch st pasts past aside seen seenWord seenHour keeps kept) ++ (wA cI w0 47 z22))) rfl jd_M_init_266 ?_
  refine hk_dup hC jd_M_init_267 rfl ?_
  refine hk_bipush (v := 22) hC jd_M_init_268 (by decide) ?_
  refine hk_bipush (v := 49) hC jd_M_init_270 (by decide) ?_
  have hr23 := xr_in h
  replace h := xr_go h
  obtain ⟨z23, e_z23, h⟩ := xl_go h
  refine hk_iast hC 18 rfl hr23 e_z23 (ws2 := ((wM cI a text letters mowers cows ricks weathers says words weather kindOf thatch newMowers newCows newRicks newWeathers newSays newWords newWeather newKind newThatch st pasts past aside seen seenWord seenHour keeps kept) ++ (wA cI w0 47 z23))) rfl jd_M_init_272 ?_
  refine hk_dup hC jd_M_init_273 rfl ?_
  refine hk_bipush (v := 23) hC jd_M_init_274 (by decide) ?_
  refine hk_bipush (v := 50) hC jd_M_init_276 (by decide) ?_
  have hr24 := xr_in h
  replace h := xr_go h
  obtain ⟨z24, e_z24, h⟩ := xl_go h
  refine hk_iast hC 18 rfl hr24 e_z24 (ws2 := ((wM cI a text letters mowers cows ricks weathers says words weather kindOf thatch newMowers newCows newRicks newWeathers newSays newWords newWeather newKind newThatch st pasts past aside seen seenWord seenHour keeps kept) ++ (wA cI w0 47 z24))) rfl jd_M_init_278 ?_
  refine hk_dup hC jd_M_init_279 rfl ?_
  refine hk_bipush (v := 24) hC jd_M_init_280 (by decide) ?_
  refine hk_bipush (v := 48) hC jd_M_init_282 (by decide) ?_
  have hr25 := xr_in h
  replace h := xr_go h
  obtain ⟨z25, e_z25, h⟩ := xl_go h
  refine hk_iast hC 18 rfl hr25 e_z25 (ws2 := ((wM cI a text letters mowers cows ricks weathers says words weather kindOf thatch newMowers newCows newRicks newWeathers newSays newWords newWeather newKind newThatch st pasts past aside seen seenWord seenHour keeps kept) ++ (wA cI w0 47 z25))) rfl jd_M_init_284 ?_
  refine hk_dup hC jd_M_init_285 rfl ?_
  refine hk_bipush (v := 25) hC jd_M_init_286 (by decide) ?_
  refine hk_bipush (v := 59) hC jd_M_init_288 (by decide) ?_
  have hr26 := xr_in h
  replace h := xr_go h
  obtain ⟨z26, e_z26, h⟩ := xl_go h
  refine hk_iast hC 18 rfl hr26 e_z26 (ws2 := ((wM cI a text letters mowers cows ricks weathers says words weather kindOf thatch newMowers newCows newRicks newWeathers newSays newWords newWeather newKind newThatch st pasts past aside seen seenWord seenHour keeps kept) ++ (wA cI w0 47 z26))) rfl jd_M_init_290 ?_
  refine hk_dup hC jd_M_init_291 rfl ?_
  refine hk_bipush (v := 26) hC jd_M_init_292 (by decide) ?_
  refine hk_bipush (v := 99) hC jd_M_init_294 (by decide) ?_
  have hr27 := xr_in h
  replace h := xr_go h
  obtain ⟨z27, e_z27, h⟩ := xl_go h
  refine hk_iast hC 18 rfl hr27 e_z27 (ws2 := ((wM cI a text letters mowers cows ricks weathers says words weather kindOf thatch newMowers newCows newRicks newWeathers newSays newWords newWeather newKind newThatch st pasts past aside seen seenWord seenHour keeps kept) ++ (wA cI w0 47 z27))) rfl jd_M_init_296 ?_
  refine hk_dup hC jd_M_init_297 rfl ?_
  refine hk_bipush (v := 27) hC jd_M_init_298 (by decide) ?_
  refine hk_bipush (v := 48) hC jd_M_init_300 (by decide) ?_
  have hr28 := xr_in h
  replace h := xr_go h
  obtain ⟨z28, e_z28, h⟩ := xl_go h
  refine hk_iast hC 18 rfl hr28 e_z28 (ws2 := ((wM cI a text letters mowers cows ricks weathers says words weather kindOf thatch newMowers newCows newRicks newWeathers newSays newWords newWeather newKind newThatch st pasts past aside seen seenWord seenHour keeps kept) ++ (wA cI w0 47 z28))) rfl jd_M_init_302 ?_
  refine hk_dup hC jd_M_init_303 rfl ?_
  refine hk_bipush (v := 28) hC jd_M_init_304 (by decide) ?_
  refine hk_bipush (v := 59) hC jd_M_init_306 (by decide) ?_
  have hr29 := xr_in h
  replace h := xr_go h
  obtain ⟨z29, e_z29, h⟩ := xl_go h
  refine hk_iast hC 18 rfl hr29 e_z29 (ws2 := ((wM cI a text letters mowers cows ricks weathers says words weather kindOf thatch newMowers newCows newRicks newWeathers newSays newWords newWeather newKind newThatch st pasts past aside seen seenWord seenHour keeps kept) ++ (wA cI w0 47 z29))) rfl jd_M_init_308 ?_
  refine hk_dup hC jd_M_init_309 rfl ?_
  refine hk_bipush (v := 29) hC jd_M_init_310 (by decide) ?_
  refine hk_bipush (v := 99) hC jd_M_init_312 (by decide) ?_
  have hr30 := xr_in h
  replace h := xr_go h
  obtain ⟨z30, e_z30, h⟩ := xl_go h
  refine hk_iast hC 18 rfl hr30 e_z30 (ws2 := ((wM cI a text letters mowers cows ricks weathers says words weather kindOf thatch newMowers newCows newRicks newWeathers newSays newWords newWeather newKind newThatch st pasts past aside seen seenWord seenHour keeps kept) ++ (wA cI w0 47 z30))) rfl jd_M_init_314 ?_
  refine hk_dup hC jd_M_init_315 rfl ?_
  refine hk_bipush (v := 30) hC jd_M_init_316 (by decide) ?_
  refine hk_bipush (v := 49) hC jd_M_init_318 (by decide) ?_
  have hr31 := xr_in h
  replace h := xr_go h
  obtain ⟨z31, e_z31, h⟩ := xl_go h
  refine hk_iast hC 18 rfl hr31 e_z31 (ws2 := ((wM cI a text letters mowers cows ricks weathers says words weather kindOf thatch newMowers newCows newRicks newWeathers newSays newWords newWeather newKind newThatch st pasts past aside seen seenWord seenHour keeps kept) ++ (wA cI w0 47 z31))) rfl jd_M_init_320 ?_
  refine hk_dup hC jd_M_init_321 rfl ?_
  refine hk_bipush (v := 31) hC jd_M_init_322 (by decide) ?_
  refine hk_bipush (v := 59) hC jd_M_init_324 (by decide) ?_
  have hr32 := xr_in h
  replace h := xr_go h
  obtain ⟨z32, e_z32, h⟩ := xl_go h
  refine hk_iast hC 18 rfl hr32 e_z32 (ws2 := ((wM cI a text letters mowers cows ricks weathers says words weather kindOf thatch newMowers newCows newRicks newWeathers newSays newWords newWeather newKind newThatch st pasts past aside seen seenWord seenHour keeps kept) ++ (wA cI w0 47 z32))) rfl jd_M_init_326 ?_
  refine hk_dup hC jd_M_init_327 rfl ?_
  refine hk_bipush (v := 32) hC jd_M_init_328 (by decide) ?_
  refine hk_bipush (v := 99) hC jd_M_init_330 (by decide) ?_
  have hr33 := xr_in h
  replace h := xr_go h
  obtain ⟨z33, e_z33, h⟩ := xl_go h
  refine hk_iast hC 18 rfl hr33 e_z33 (ws2 := ((wM cI a text letters mowers cows ricks weathers says words weather kindOf thatch newMowers newCows newRicks newWeathers newSays newWords newWeather newKind newThatch st pasts past aside seen seenWord seenHour keeps kept) ++ (wA cI w0 47 z33))) rfl jd_M_init_332 ?_
  refine hk_dup hC jd_M_init_333 rfl ?_
  refine hk_bipush (v := 33) hC jd_M_init_334 (by decide) ?_
  refine hk_bipush (v := 50) hC jd_M_init_336 (by decide) ?_
  have hr34 := xr_in h
  replace h := xr_go h
  obtain ⟨z34, e_z34, h⟩ := xl_go h
  refine hk_iast hC 18 rfl hr34 e_z34 (ws2 := ((wM cI a text letters mowers cows ricks weathers says words weather kindOf thatch newMowers newCows newRicks newWeathers newSays newWords newWeather newKind newThatch st pasts past aside seen seenWord seenHour keeps kept) ++ (wA cI w0 47 z34))) rfl jd_M_init_338 ?_
  refine hk_dup hC jd_M_init_339 rfl ?_
  refine hk_bipush (v := 34) hC jd_M_init_340 (by decide) ?_
  refine hk_bipush (v := 59) hC jd_M_init_342 (by decide) ?_
  have hr35 := xr_in h
  replace h := xr_go h
  obtain ⟨z35, e_z35, h⟩ := xl_go h
  refine hk_iast hC 18 rfl hr35 e_z35 (ws2 := ((wM cI a text letters mowers cows ricks weathers says words weather kindOf thatch newMowers newCows newRicks newWeathers newSays newWords newWeather newKind newThatch st pasts past aside seen seenWord seenHour keeps kept) ++ (wA cI w0 47 z35))) rfl jd_M_init_344 ?_
  refine hk_dup hC jd_M_init_345 rfl ?_
  refine hk_bipush (v := 35) hC jd_M_init_346 (by decide) ?_
  refine hk_bipush (v := 99) hC jd_M_init_348 (by decide) ?_
  have hr36 := xr_in h
  replace h := xr_go h
  obtain ⟨z36, e_z36, h⟩ := xl_go h
  refine hk_iast hC 18 rfl hr36 e_z36 (ws2 := ((wM cI a text letters mowers cows ricks weathers says words weather kindOf thatch newMowers newCows newRicks newWeathers newSays newWords newWeather newKind newThatch st pasts past aside seen seenWord seenHour keeps kept) ++ (wA cI w0 47 z36))) rfl jd_M_init_350 ?_
  refine hk_dup hC jd_M_init_351 rfl ?_
  refine hk_bipush (v := 36) hC jd_M_init_352 (by decide) ?_
  refine hk_bipush (v := 51) hC jd_M_init_354 (by decide) ?_
  have hr37 := xr_in h
  replace h := xr_go h
  obtain ⟨z37, e_z37, h⟩ := xl_go h
  refine hk_iast hC 18 rfl hr37 e_z37 (ws2 := ((wM cI a text letters mowers cows ricks weathers says words weather kindOf thatch newMowers newCows newRicks newWeathers newSays newWords newWeather newKind newThatch st pasts past aside seen seenWord seenHour keeps kept) ++ (wA cI w0 47 z37))) rfl jd_M_init_356 ?_
  refine hk_dup hC jd_M_init_357 rfl ?_
  refine hk_bipush (v := 37) hC jd_M_init_358 (by decide) ?_
  refine hk_bipush (v := 59) hC jd_M_init_360 (by decide) ?_
  have hr38 := xr_in h
  replace h := xr_go h
  obtain ⟨z38, e_z38, h⟩ := xl_go h
  refine hk_iast hC 18 rfl hr38 e_z38 (ws2 := ((wM cI a text letters mowers cows ricks weathers says words weather kindOf thatch newMowers newCows newRicks newWeathers newSays newWords newWeather newKind newThatch st pasts past aside seen seenWord seenHour keeps kept) ++ (wA cI w0 47 z38))) rfl jd_M_init_362 ?_
  refine hk_dup hC jd_M_init_363 rfl ?_
  refine hk_bipush (v := 38) hC jd_M_init_364 (by decide) ?_
  refine hk_bipush (v := 107) hC jd_M_init_366 (by decide) ?_
  have hr39 := xr_in h
  replace h := xr_go h
  obtain ⟨z39, e_z39, h⟩ := xl_go h
  refine hk_iast hC 18 rfl hr39 e_z39 (ws2 := ((wM cI a text letters mowers cows ricks weathers says words weather kindOf thatch newMowers newCows newRicks newWeathers newSays newWords newWeather newKind newThatch st pasts past aside seen seenWord seenHour keeps kept) ++ (wA cI w0 47 z39))) rfl jd_M_init_368 ?_
  refine hk_dup hC jd_M_init_369 rfl ?_
  refine hk_bipush (v := 39) hC jd_M_init_370 (by decide) ?_
  refine hk_bipush (v := 50) hC jd_M_init_372 (by decide) ?_
  have hr40 := xr_in h
  replace h := xr_go h
  obtain ⟨z40, e_z40, h⟩ := xl_go h
  refine hk_iast hC 18 rfl hr40 e_z40 (ws2 := ((wM cI a text letters mowers cows ricks weathers says words weather kindOf thatch newMowers newCows newRicks newWeathers newSays newWords newWeather newKind newThatch st pasts past aside seen seenWord seenHour keeps kept) ++ (wA cI w0 47 z40))) rfl jd_M_init_374 ?_
  refine hk_dup hC jd_M_init_375 rfl ?_
  refine hk_bipush (v := 40) hC jd_M_init_376 (by decide) ?_
  refine hk_bipush (v := 59) hC jd_M_init_378 (by decide) ?_
  have hr41 := xr_in h
  replace h := xr_go h
  obtain ⟨z41, e_z41, h⟩ := xl_go h
  refine hk_iast hC 18 rfl hr41 e_z41 (ws2 := ((wM cI a text letters mowers cows ricks weathers says words weather kindOf thatch newMowers newCows newRicks newWeathers newSays newWords newWeather newKind newThatch st pasts past aside seen seenWord seenHour keeps kept) ++ (wA cI w0 47 z41))) rfl jd_M_init_380 ?_
  refine hk_dup hC jd_M_init_381 rfl ?_
  refine hk_bipush (v := 41) hC jd_M_init_382 (by decide) ?_
  refine hk_bipush (v := 107) hC jd_M_init_384 (by decide) ?_
  have hr42 := xr_in h
  replace h := xr_go h
  obtain ⟨z42, e_z42, h⟩ := xl_go h
  refine hk_iast hC 18 rfl hr42 e_z42 (ws2 := ((wM cI a text letters mowers cows ricks weathers says words weather kindOf thatch newMowers newCows newRicks newWeathers newSays newWords newWeather newKind newThatch st pasts past aside seen seenWord seenHour keeps kept) ++ (wA cI w0 47 z42))) rfl jd_M_init_386 ?_
  refine hk_dup hC jd_M_init_387 rfl ?_
  refine hk_bipush (v := 42) hC jd_M_init_388 (by decide) ?_
  refine hk_bipush (v := 48) hC jd_M_init_390 (by decide) ?_
  have hr43 := xr_in h
  replace h := xr_go h
  obtain ⟨z43, e_z43, h⟩ := xl_go h
  refine hk_iast hC 18 rfl hr43 e_z43 (ws2 := ((wM cI a text letters mowers cows ricks weathers says words weather kindOf thatch newMowers newCows newRicks newWeathers newSays newWords newWeather newKind newThatch st pasts past aside seen seenWord seenHour keeps kept) ++ (wA cI w0 47 z43))) rfl jd_M_init_392 ?_
  refine hk_dup hC jd_M_init_393 rfl ?_
  refine hk_bipush (v := 43) hC jd_M_init_394 (by decide) ?_
  refine hk_bipush (v := 59) hC jd_M_init_396 (by decide) ?_
  have hr44 := xr_in h
  replace h := xr_go h
  obtain ⟨z44, e_z44, h⟩ := xl_go h
  refine hk_iast hC 18 rfl hr44 e_z44 (ws2 := ((wM cI a text letters mowers cows ricks weathers says words weather kindOf thatch newMowers newCows newRicks newWeathers newSays newWords newWeather newKind newThatch st pasts past aside seen seenWord seenHour keeps kept) ++ (wA cI w0 47 z44))) rfl jd_M_init_398 ?_
  refine hk_dup hC jd_M_init_399 rfl ?_
  refine hk_bipush (v := 44) hC jd_M_init_400 (by decide) ?_
  refine hk_bipush (v := 107) hC jd_M_init_402 (by decide) ?_
  have hr45 := xr_in h
  replace h := xr_go h
  obtain ⟨z45, e_z45, h⟩ := xl_go h
  refine hk_iast hC 18 rfl hr45 e_z45 (ws2 := ((wM cI a text letters mowers cows ricks weathers says words weather kindOf thatch newMowers newCows newRicks newWeathers newSays newWords newWeather newKind newThatch st pasts past aside seen seenWord seenHour keeps kept) ++ (wA cI w0 47 z45))) rfl jd_M_init_404 ?_
  refine hk_dup hC jd_M_init_405 rfl ?_
  refine hk_bipush (v := 45) hC jd_M_init_406 (by decide) ?_
  refine hk_bipush (v := 53) hC jd_M_init_408 (by decide) ?_
  have hr46 := xr_in h
  replace h := xr_go h
  obtain ⟨z46, e_z46, h⟩ := xl_go h
  refine hk_iast hC 18 rfl hr46 e_z46 (ws2 := ((wM cI a text letters mowers cows ricks weathers says words weather kindOf thatch newMowers newCows newRicks newWeathers newSays newWords newWeather newKind newThatch st pasts past aside seen seenWord seenHour keeps kept) ++ (wA cI w0 47 z46))) rfl jd_M_init_410 ?_
  refine hk_dup hC jd_M_init_411 rfl ?_
  refine hk_bipush (v := 46) hC jd_M_init_412 (by decide) ?_
  refine hk_bipush (v := 59) hC jd_M_init_414 (by decide) ?_
  have hr47 := xr_in h
  replace h := xr_go h
  obtain ⟨z47, e_z47, h⟩ := xl_go h
  refine hk_iast hC 18 rfl hr47 e_z47 (ws2 := ((wM cI a text letters mowers cows ricks weathers says words weather kindOf thatch newMowers newCows newRicks newWeathers newSays newWords newWeather newKind newThatch st pasts past aside seen seenWord seenHour keeps kept) ++ (wA cI w0 47 z47))) rfl jd_M_init_416 ?_
  refine hk_astore_n hC (i := 1) (lv2 := [(1, .ref (w0 0)), (0, .ref (a 0))]) jd_M_init_417 rfl rfl (by decide) rfl ?_
  refine hk_iconst (v := 0) hC jd_M_init_418 (by decide) ?_
  refine hk_istore_n hC (i := 2) (y := (0 : Int32)) (lv2 := [(2, .int (0 : Int32)), (1, .ref (w0 0)), (0, .ref (a 0))]) jd_M_init_419 rfl rfl (by decide) rfl ?_
  exact hk_lv [2, 1, 0] rfl (L_420 text letters mowers cows ricks weathers says words weather kindOf thatch newMowers newCows newRicks newWeathers newSays newWords newWeather newKind newThatch st pasts seen keeps z47 (0 : Int32) _ (fun q1 h => by exact (B_441 q1 letters mowers cows ricks weathers says words weather kindOf thatch newMowers newCows newRicks newWeathers newSays newWords newWeather newKind newThatch st pasts seen keeps z47   h)) h)
set_option maxHeartbeats 16000000 in
set_option maxRecDepth 100000 in
theorem jw_M_init {p : Program} {l : Launch} {e : Env} {s : State} {m : MethodId} {args : Array Value} {below : List Frame} {meth : Method} {c : Code} {A : Nat → Prop} {D : va_G} {cI cF : ClassId} (hC : hk_ok p s m args meth c A 3 D cI cF "HayTalkModel" jb_M_init) (hr : meth.sig.returnType = none) (hnm : meth.name = "<init>") (N : Nat) (h0 : Nat) {o : (Nat → Int32) × Int32 × Int32 × Int32 × Int32 × Int32 × (Nat → Int32) × (Nat → Int32) × (Nat → Int32) × (Nat → Int32) × (Nat → Int32) × Int32 × Int32 × Int32 × Int32 × (Nat → Int32) × (Nat → Int32) × (Nat → Int32) × (Nat → Int32) × (Nat → Int32) × (Nat → Int32) × Int32 × Int32 × Int32 × (Nat → Int32)} (h : jf_M_init N (fun _ => 0) 0 0 0 0 0 (fun _ => 0) (fun _ => 0) (fun _ => 0) (fun _ => 0) (fun _ => 0) 0 0 0 0 (fun _ => 0) (fun _ => 0) (fun _ => 0) (fun _ => 0) (fun _ => 0) (fun _ => 0) 0 0 0 (fun _ => 0) = some o) : hk_W p l e jr_M_init s m args below meth c A (hk_Zx below args s D A h0 18 1507 (fun a2 => wM cI a2 o.1 o.2.1 o.2.2.1 o.2.2.2.1 o.2.2.2.2.1 o.2.2.2.2.2.1 o.2.2.2.2.2.2.1 o.2.2.2.2.2.2.2.1 o.2.2.2.2.2.2.2.2.1 o.2.2.2.2.2.2.2.2.2.1 o.2.2.2.2.2.2.2.2.2.2.1 o.2.2.2.2.2.2.2.2.2.2.2.1 o.2.2.2.2.2.2.2.2.2.2.2.2.1 o.2.2.2.2.2.2.2.2.2.2.2.2.2.1 o.2.2.2.2.2.2.2.2.2.2.2.2.2.2.1 o.2.2.2.2.2.2.2.2.2.2.2.2.2.2.2.1 o.2.2.2.2.2.2.2.2.2.2.2.2.2.2.2.2.1 o.2.2.2.2.2.2.2.2.2.2.2.2.2.2.2.2.2.1 o.2.2.2.2.2.2.2.2.2.2.2.2.2.2.2.2.2.2.1 o.2.2.2.2.2.2.2.2.2.2.2.2.2.2.2.2.2.2.2.1 o.2.2.2.2.2.2.2.2.2.2.2.2.2.2.2.2.2.2.2.2.1 o.2.2.2.2.2.2.2.2.2.2.2.2.2.2.2.2.2.2.2.2.2.1 (fun _ => 0) (fun _ => 0) o.2.2.2.2.2.2.2.2.2.2.2.2.2.2.2.2.2.2.2.2.2.2.1 (fun _ => 0) (fun _ => 0) o.2.2.2.2.2.2.2.2.2.2.2.2.2.2.2.2.2.2.2.2.2.2.2.1 (fun _ => 0))) 3 D 0 0 [(h0, .inr (6, [.null, .int 0, .int 0, .int 0, .int 0, .int 0, .null, .null, .null, .null, .null, .int 0, .int 0, .int 0, .int 0, .null, .null, .null, .null, .null, .null, .int 0, .null, .null, .int 0, .null, .null, .int 0, .null]))] 0 [(0, .ref h0)] [] := by
  refine hk_aload_n hC jd_M_init_0 0 rfl ?_
  refine hk_objInit hC jq_651 ⟨Nat.le_of_ble_eq_true rfl, Nat.le_of_ble_eq_true rfl⟩ jd_M_init_1 ?_
  refine hk_aload_n hC jd_M_init_4 0 rfl ?_
  refine hk_sipush (v := 200) hC jd_M_init_5 (by decide) ?_
  refine hk_newa (N' := 200) hC (by decide) (by decide) (by decide) ⟨Nat.le_of_ble_eq_true rfl, Nat.le_of_ble_eq_true rfl⟩ jd_M_init_8 (fun q1 => ?_)
  refine hk_ws (ws2 := [(h0, .inr (6, [.null, .int 0, .int 0, .int 0, .int 0, .int 0, .null, .null, .null, .null, .null, .int 0, .int 0, .int 0, .int 0, .null, .null, .null, .null, .null, .null, .int 0, .null, .null, .int 0, .null, .null, .int 0, .null])), (q1, .inl (cI, 200, .inl (fun _ => 0)))]) rfl ?_
  refine hk_widen (k1 := 1) (k2 := 200) (Nat.le_of_ble_eq_true rfl) (Nat.le_of_ble_eq_true rfl) ?_
  refine hk_putF hC jk_M 0 rfl 0 (by decide) jq_698 rfl hnm rfl rfl rfl (Nat.le_of_ble_eq_true rfl) (ws2 := [(h0, .inr (6, [.ref q1, .int 0, .int 0, .int 0, .int 0, .int 0, .null, .null, .null, .null, .null, .int 0, .int 0, .int 0, .int 0, .null, .null, .null, .null, .null, .null, .int 0, .null, .null, .int 0, .null, .null, .int 0, .null])), (q1, .inl (cI, 200, .inl (fun _ => 0)))]) rfl jd_M_init_10 ?_
  refine hk_aload_n hC jd_M_init_13 0 rfl ?_
  refine hk_iconst (v := 5) hC jd_M_init_14 (by decide) ?_
  refine hk_newa (N' := 5) hC (by decide) (by decide) (by decide) ⟨Nat.le_of_ble_eq_true rfl, Nat.le_of_ble_eq_true rfl⟩ jd_M_init_15 (fun q2 => ?_)
  refine hk_ws (ws2 := [(h0, .inr (6, [.ref q1, .int 0, .int 0, .int 0, .int 0, .int 0, .null, .null, .null, .null, .null, .int 0, .int 0, .int 0, .int 0, .null, .null, .null, .null, .null, .null, .int 0, .null, .null, .int 0, .null, .null, .int 0, .null])), (q1, .inl (cI, 200, .inl (fun _ => 0))), (q2, .inl (cI, 5, .inl (fun _ => 0)))]) rfl ?_
  refine hk_widen (k1 := 2) (k2 := 205) (Nat.le_of_ble_eq_true rfl) (Nat.le_of_ble_eq_true rfl) ?_
  refine hk_putF hC jk_M 0 rfl 6 (by decide) jq_704 rfl hnm rfl rfl rfl (Nat.le_of_ble_eq_true rfl) (ws2 := [(h0, .inr (6, [.ref q1, .int 0, .int 0, .int 0, .int 0, .int 0, .ref q2, .null, .null, .null, .null, .int 0, .int 0, .int 0, .int 0, .null, .null, .null, .null, .null, .null, .int 0, .null, .null, .int 0, .null, .null, .int 0, .null])), (q1, .inl (cI, 200, .inl (fun _ => 0))), (q2, .inl (cI, 5, .inl (fun _ => 0)))]) rfl jd_M_init_17 ?_
  refine hk_aload_n hC jd_M_init_20 0 rfl ?_
  refine hk_bipush (v := 45) hC jd_M_init_21 (by decide) ?_
  refine hk_newa (N' := 45) hC (by decide) (by decide) (by decide) ⟨Nat.le_of_ble_eq_true rfl, Nat.le_of_ble_eq_true rfl⟩ jd_M_init_23 (fun q3 => ?_)
  refine hk_ws (ws2 := [(h0, .inr (6, [.ref q1, .int 0, .int 0, .int 0, .int 0, .int 0, .ref q2, .null, .null, .null, .null, .int 0, .int 0, .int 0, .int 0, .null, .null, .null, .null, .null, .null, .int 0, .null, .null, .int 0, .null, .null, .int 0, .null])), (q1, .inl (cI, 200, .inl (fun _ => 0))), (q2, .inl (cI, 5, .inl (fun _ => 0))), (q3, .inl (cI, 45, .inl (fun _ => 0)))]) rfl ?_
  refine hk_widen (k1 := 3) (k2 := 250) (Nat.le_of_ble_eq_true rfl) (Nat.le_of_ble_eq_true rfl) ?_
  refine hk_putF hC jk_M 0 rfl 7 (by decide) jq_705 rfl hnm rfl rfl rfl (Nat.le_of_ble_eq_true rfl) (ws2 := [(h0, .inr (6, [.ref q1, .int 0, .int 0, .int 0, .int 0, .int 0, .ref q2, .ref q3, .null, .null, .null, .int 0, .int 0, .int 0, .int 0, .null, .null, .null, .null, .null, .null, .int 0, .null, .null, .int 0, .null, .null, .int 0, .null])), (q1, .inl (cI, 200, .inl (fun _ => 0))), (q2, .inl (cI, 5, .inl (fun _ => 0))), (q3, .inl (cI, 45, .inl (fun _ => 0)))]) rfl jd_M_init_25 ?_
  refine hk_aload_n hC jd_M_init_28 0 rfl ?_
  refine hk_bipush (v := 9) hC jd_M_init_29 (by decide) ?_
  refine hk_newa (N' := 9) hC (by decide) (by decide) (by decide) ⟨Nat.le_of_ble_eq_true rfl, Nat.le_of_ble_eq_true rfl⟩ jd_M_init_31 (fun q4 => ?_)
  refine hk_ws (ws2 := [(h0, .inr (6, [.ref q1, .int 0, .int 0, .int 0, .int 0, .int 0, .ref q2, .ref q3, .null, .null, .null, .int 0, .int 0, .int 0, .int 0, .null, .null, .null, .null, .null, .null, .int 0, .null, .null, .int 0, .null, .null, .int 0, .null])), (q1, .inl (cI, 200, .inl (fun _ => 0))), (q2, .inl (cI, 5, .inl (fun _ => 0))), (q3, .inl (cI, 45, .inl (fun _ => 0))), (q4, .inl (cI, 9, .inl (fun _ => 0)))]) rfl ?_
  refine hk_widen (k1 := 4) (k2 := 259) (Nat.le_of_ble_eq_true rfl) (Nat.le_of_ble_eq_true rfl) ?_
  refine hk_putF hC jk_M 0 rfl 8 (by decide) jq_706 rfl hnm rfl rfl rfl (Nat.le_of_ble_eq_true rfl) (ws2 := [(h0, .inr (6, [.ref q1, .int 0, .int 0, .int 0, .int 0, .int 0, .ref q2, .ref q3, .ref q4, .null, .null, .int 0, .int 0, .int 0, .int 0, .null, .null, .null, .null, .null, .null, .int 0, .null, .null, .int 0, .null, .null, .int 0, .null])), (q1, .inl (cI, 200, .inl (fun _ => 0))), (q2, .inl (cI, 5, .inl (fun _ => 0))), (q3, .inl (cI, 45, .inl (fun _ => 0))), (q4, .inl (cI, 9, .inl (fun _ => 0)))]) rfl jd_M_init_33 ?_
  refine hk_aload_n hC jd_M_init_36 0 rfl ?_
  refine hk_iconst (v := 4) hC jd_M_init_37 (by decide) ?_
  refine hk_newa (N' := 4) hC (by decide) (by decide) (by decide) ⟨Nat.le_of_ble_eq_true rfl, Nat.le_of_ble_eq_true rfl⟩ jd_M_init_38 (fun q5 => ?_)
  refine hk_ws (ws2 := [(h0, .inr (6, [.ref q1, .int 0, .int 0, .int 0, .int 0, .int 0, .ref q2, .ref q3, .ref q4, .null, .null, .int 0, .int 0, .int 0, .int 0, .null, .null, .null, .null, .null, .null, .int 0, .null, .null, .int 0, .null, .null, .int 0, .null])), (q1, .inl (cI, 200, .inl (fun _ => 0))), (q2, .inl (cI, 5, .inl (fun _ => 0))), (q3, .inl (cI, 45, .inl (fun _ => 0))), (q4, .inl (cI, 9, .inl (fun _ => 0))), (q5, .inl (cI, 4, .inl (fun _ => 0)))]) rfl ?_
  refine hk_widen (k1 := 5) (k2 := 263) (Nat.le_of_ble_eq_true rfl) (Nat.le_of_ble_eq_true rfl) ?_
  refine hk_putF hC jk_M 0 rfl 9 (by decide) jq_707 rfl hnm rfl rfl rfl (Nat.le_of_ble_eq_true rfl) (ws2 := [(h0, .inr (6, [.ref q1, .int 0, .int 0, .int 0, .int 0, .int 0, .ref q2, .ref q3, .ref q4, .ref q5, .null, .int 0, .int 0, .int 0, .int 0, .null, .null, .null, .null, .null, .null, .int 0, .null, .null, .int 0, .null, .null, .int 0, .null])), (q1, .inl (cI, 200, .inl (fun _ => 0))), (q2, .inl (cI, 5, .inl (fun _ => 0))), (q3, .inl (cI, 45, .inl (fun _ => 0))), (q4, .inl (cI, 9, .inl (fun _ => 0))), (q5, .inl (cI, 4, .inl (fun _ => 0)))]) rfl jd_M_init_40 ?_
  refine hk_aload_n hC jd_M_init_43 0 rfl ?_
  refine hk_iconst (v := 3) hC jd_M_init_44 (by decide) ?_
  refine hk_newa (N' := 3) hC (by decide) (by decide) (by decide) ⟨Nat.le_of_ble_eq_true rfl, Nat.le_of_ble_eq_true rfl⟩ jd_M_init_45 (fun q6 => ?_)
  refine hk_ws (ws2 := [(h0, .inr (6, [.ref q1, .int 0, .int 0, .int 0, .int 0, .int 0, .ref q2, .ref q3, .ref q4, .ref q5, .null, .int 0, .int 0, .int 0, .int 0, .null, .null, .null, .null, .null, .null, .int 0, .null, .null, .int 0, .null, .null, .int 0, .null])), (q1, .inl (cI, 200, .inl (fun _ => 0))), (q2, .inl (cI, 5, .inl (fun _ => 0))), (q3, .inl (cI, 45, .inl (fun _ => 0))), (q4, .inl (cI, 9, .inl (fun _ => 0))), (q5, .inl (cI, 4, .inl (fun _ => 0))), (q6, .inl (cI, 3, .inl (fun _ => 0)))]) rfl ?_
  refine hk_widen (k1 := 6) (k2 := 266) (Nat.le_of_ble_eq_true rfl) (Nat.le_of_ble_eq_true rfl) ?_
  refine hk_putF hC jk_M 0 rfl 10 (by decide) jq_708 rfl hnm rfl rfl rfl (Nat.le_of_ble_eq_true rfl) (ws2 := [(h0, .inr (6, [.ref q1, .int 0, .int 0, .int 0, .int 0, .int 0, .ref q2, .ref q3, .ref q4, .ref q5, .ref q6, .int 0, .int 0, .int 0, .int 0, .null, .null, .null, .null, .null, .null, .int 0, .null, .null, .int 0, .null, .null, .int 0, .null])), (q1, .inl (cI, 200, .inl (fun _ => 0))), (q2, .inl (cI, 5, .inl (fun _ => 0))), (q3, .inl (cI, 45, .inl (fun _ => 0))), (q4, .inl (cI, 9, .inl (fun _ => 0))), (q5, .inl (cI, 4, .inl (fun _ => 0))), (q6, .inl (cI, 3, .inl (fun _ => 0)))]) rfl jd_M_init_47 ?_
  refine hk_aload_n hC jd_M_init_50 0 rfl ?_
  refine hk_iconst (v := 5) hC jd_M_init_51 (by decide) ?_
  refine hk_newa (N' := 5) hC (by decide) (by decide) (by decide) ⟨Nat.le_of_ble_eq_true rfl, Nat.le_of_ble_eq_true rfl⟩ jd_M_init_52 (fun q7 => ?_)
  refine hk_ws (ws2 := [(h0, .inr (6, [.ref q1, .int 0, .int 0, .int 0, .int 0, .int 0, .ref q2, .ref q3, .ref q4, .ref q5, .ref q6, .int 0, .int 0, .int 0, .int 0, .null, .null, .null, .null, .null, .null, .int 0, .null, .null, .int 0, .null, .null, .int 0, .null])), (q1, .inl (cI, 200, .inl (fun _ => 0))), (q2, .inl (cI, 5, .inl (fun _ => 0))), (q3, .inl (cI, 45, .inl (fun _ => 0))), (q4, .inl (cI, 9, .inl (fun _ => 0))), (q5, .inl (cI, 4, .inl (fun _ => 0))), (q6, .inl (cI, 3, .inl (fun _ => 0))), (q7, .inl (cI, 5, .inl (fun _ => 0)))]) rfl ?_
  refine hk_widen (k1 := 7) (k2 := 271) (Nat.le_of_ble_eq_true rfl) (Nat.le_of_ble_eq_true rfl) ?_
  refine hk_putF hC jk_M 0 rfl 15 (by decide) jq_713 rfl hnm rfl rfl rfl (Nat.le_of_ble_eq_true rfl) (ws2 := [(h0, .inr (6, [.ref q1, .int 0, .int 0, .int 0, .int 0, .int 0, .ref q2, .ref q3, .ref q4, .ref q5, .ref q6, .int 0, .int 0, .int 0, .int 0, .ref q7, .null, .null, .null, .null, .null, .int 0, .null, .null, .int 0, .null, .null, .int 0, .null])), (q1, .inl (cI, 200, .inl (fun _ => 0))), (q2, .inl (cI, 5, .inl (fun _ => 0))), (q3, .inl (cI, 45, .inl (fun _ => 0))), (q4, .inl (cI, 9, .inl (fun _ => 0))), (q5, .inl (cI, 4, .inl (fun _ => 0))), (q6, .inl (cI, 3, .inl (fun _ => 0))), (q7, .inl (cI, 5, .inl (fun _ => 0)))]) rfl jd_M_init_54 ?_
  refine hk_aload_n hC jd_M_init_57 0 rfl ?_
  refine hk_bipush (v := 45) hC jd_M_init_58 (by decide) ?_
  refine hk_newa (N' := 45) hC (by decide) (by decide) (by decide) ⟨Nat.le_of_ble_eq_true rfl, Nat.le_of_ble_eq_true rfl⟩ jd_M_init_60 (fun q8 => ?_)
  refine hk_ws (ws2 := [(h0, .inr (6, [.ref q1, .int 0, .int 0, .int 0, .int 0, .int 0, .ref q2, .ref q3, .ref q4, .ref q5, .ref q6, .int 0, .int 0, .int 0, .int 0, .ref q7, .null, .null, .null, .null, .null, .int 0, .null, .null, .int 0, .null, .null, .int 0, .null])), (q1, .inl (cI, 200, .inl (fun _ => 0))), (q2, .inl (cI, 5, .inl (fun _ => 0))), (q3, .inl (cI, 45, .inl (fun _ => 0))), (q4, .inl (cI, 9, .inl (fun _ => 0))), (q5, .inl (cI, 4, .inl (fun _ => 0))), (q6, .inl (cI, 3, .inl (fun _ => 0))), (q7, .inl (cI, 5, .inl (fun _ => 0))), (q8, .inl (cI, 45, .inl (fun _ => 0)))]) rfl ?_
  refine hk_widen (k1 := 8) (k2 := 316) (Nat.le_of_ble_eq_true rfl) (Nat.le_of_ble_eq_true rfl) ?_
  refine hk_putF hC jk_M 0 rfl 16 (by decide) jq_714 rfl hnm rfl rfl rfl (Nat.le_of_ble_eq_true rfl) (ws2 := [(h0, .inr (6, [.ref q1, .int 0, .int 0, .int 0, .int 0, .int 0, .ref q2, .ref q3, .ref q4, .ref q5, .ref q6, .int 0, .int 0, .int 0, .int 0, .ref q7, .ref q8, .null, .null, .null, .null, .int 0, .null, .null, .int 0, .null, .null, .int 0, .null])), (q1, .inl (cI, 200, .inl (fun _ => 0))), (q2, .inl (cI, 5, .inl (fun _ => 0))), (q3, .inl (cI, 45, .inl (fun _ => 0))), (q4, .inl (cI, 9, .inl (fun _ => 0))), (q5, .inl (cI, 4, .inl (fun _ => 0))), (q6, .inl (cI, 3, .inl (fun _ => 0))), (q7, .inl (cI, 5, .inl (fun _ => 0))), (q8, .inl (cI, 45, .inl (fun _ => 0)))]) rfl jd_M_init_62 ?_
  refine hk_aload_n hC jd_M_init_65 0 rfl ?_
  refine hk_bipush (v := 9) hC jd_M_init_66 (by decide) ?_
  refine hk_newa (N' := 9) hC (by decide) (by decide) (by decide) ⟨Nat.le_of_ble_eq_true rfl, Nat.le_of_ble_eq_true rfl⟩ jd_M_init_68 (fun q9 => ?_)
  refine hk_ws (ws2 := [(h0, .inr (6, [.ref q1, .int 0, .int 0, .int 0, .int 0, .int 0, .ref q2, .ref q3, .ref q4, .ref q5, .ref q6, .int 0, .int 0, .int 0, .int 0, .ref q7, .ref q8, .null, .null, .null, .null, .int 0, .null, .null, .int 0, .null, .null, .int 0, .null])), (q1, .inl (cI, 200, .inl (fun _ => 0))), (q2, .inl (cI, 5, .inl (fun _ => 0))), (q3, .inl (cI, 45, .inl (fun _ => 0))), (q4, .inl (cI, 9, .inl (fun _ => 0))), (q5, .inl (cI, 4, .inl (fun _ => 0))), (q6, .inl (cI, 3, .inl (fun _ => 0))), (q7, .inl (cI, 5, .inl (fun _ => 0))), (q8, .inl (cI, 45, .inl (fun _ => 0))), (q9, .inl (cI, 9, .inl (fun _ => 0)))]) rfl ?_
  refine hk_widen (k1 := 9) (k2 := 325) (Nat.le_of_ble_eq_true rfl) (Nat.le_of_ble_eq_true rfl) ?_
  refine hk_putF hC jk_M 0 rfl 17 (by decide) jq_715 rfl hnm rfl rfl rfl (Nat.le_of_ble_eq_true rfl) (ws2 := [(h0, .inr (6, [.ref q1, .int 0, .int 0, .int 0, .int 0, .int 0, .ref q2, .ref q3, .ref q4, .ref q5, .ref q6, .int 0, .int 0, .int 0, .int 0, .ref q7, .ref q8, .ref q9, .null, .null, .null, .int 0, .null, .null, .int 0, .null, .null, .int 0, .null])), (q1, .inl (cI, 200, .inl (fun _ => 0))), (q2, .inl (cI, 5, .inl (fun _ => 0))), (q3, .inl (cI, 45, .inl (fun _ => 0))), (q4, .inl (cI, 9, .inl (fun _ => 0))), (q5, .inl (cI, 4, .inl (fun _ => 0))), (q6, .inl (cI, 3, .inl (fun _ => 0))), (q7, .inl (cI, 5, .inl (fun _ => 0))), (q8, .inl (cI, 45, .inl (fun _ => 0))), (q9, .inl (cI, 9, .inl (fun _ => 0)))]) rfl jd_M_init_70 ?_
  refine hk_aload_n hC jd_M_init_73 0 rfl ?_
  refine hk_iconst (v := 4) hC jd_M_init_74 (by decide) ?_
  refine hk_newa (N' := 4) hC (by decide) (by decide) (by decide) ⟨Nat.le_of_ble_eq_true rfl, Nat.le_of_ble_eq_true rfl⟩ jd_M_init_75 (fun q10 => ?_)
  refine hk_ws (ws2 := [(h0, .inr (6, [.ref q1, .int 0, .int 0, .int 0, .int 0, .int 0, .ref q2, .ref q3, .ref q4, .ref q5, .ref q6, .int 0, .int 0, .int 0, .int 0, .ref q7, .ref q8, .ref q9, .null, .null, .null, .int 0, .null, .null, .int 0, .null, .null, .int 0, .null])), (q1, .inl (cI, 200, .inl (fun _ => 0))), (q2, .inl (cI, 5, .inl (fun _ => 0))), (q3, .inl (cI, 45, .inl (fun _ => 0))), (q4, .inl (cI, 9, .inl (fun _ => 0))), (q5, .inl (cI, 4, .inl (fun _ => 0))), (q6, .inl (cI, 3, .inl (fun _ => 0))), (q7, .inl (cI, 5, .inl (fun _ => 0))), (q8, .inl (cI, 45, .inl (fun _ => 0))), (q9, .inl (cI, 9, .inl (fun _ => 0))), (q10, .inl (cI, 4, .inl (fun _ => 0)))]) rfl ?_
  refine hk_widen (k1 := 10) (k2 := 329) (Nat.le_of_ble_eq_true rfl) (Nat.le_of_ble_eq_true rfl) ?_
  refine hk_putF hC jk_M 0 rfl 18 (by decide) jq_716 rfl hnm rfl rfl rfl (Nat.le_of_ble_eq_true rfl) (ws2 := [(h0, .inr (6, [.ref q1, .int 0, .int 0, .int 0, .int 0, .int 0, .ref q2, .ref q3, .ref q4, .ref q5, .ref q6, .int 0, .int 0, .int 0, .int 0, .ref q7, .ref q8, .ref q9, .ref q10, .null, .null, .int 0, .null, .null, .int 0, .null, .null, .int 0, .null])), (q1, .inl (cI, 200, .inl (fun _ => 0))), (q2, .inl (cI, 5, .inl (fun _ => 0))), (q3, .inl (cI, 45, .inl (fun _ => 0))), (q4, .inl (cI, 9, .inl (fun _ => 0))), (q5, .inl (cI, 4, .inl (fun _ => 0))), (q6, .inl (cI, 3, .inl (fun _ => 0))), (q7, .inl (cI, 5, .inl (fun _ => 0))), (q8, .inl (cI, 45, .inl (fun _ => 0))), (q9, .inl (cI, 9, .inl (fun _ => 0))), (q10, .inl (cI, 4, .inl (fun _ => 0)))]) rfl jd_M_init_77 ?_
  refine hk_aload_n hC jd_M_init_80 0 rfl ?_
  refine hk_iconst (v := 3) hC jd_M_init_81 (by decide) ?_
  refine hk_newa (N' := 3) hC (by decide) (by decide) (by decide) ⟨Nat.le_of_ble_eq_true rfl, Nat.le_of_ble_eq_true rfl⟩ jd_M_init_82 (fun q11 => ?_)
  refine hk_ws (ws2 := [(h0, .inr (6, [.ref q1, .int 0, .int 0, .int 0, .int 0, .int 0, .ref q2, .ref q3, .ref q4, .ref q5, .ref q6, .int 0, .int 0, .int 0, .int 0, .ref q7, .ref q8, .ref q9, .ref q10, .null, .null, .int 0, .null, .null, .int 0, .null, .null, .int 0, .null])), (q1, .inl (cI, 200, .inl (fun _ => 0))), (q2, .inl (cI, 5, .inl (fun _ => 0))), (q3, .inl (cI, 45, .inl (fun _ => 0))), (q4, .inl (cI, 9, .inl (fun _ => 0))), (q5, .inl (cI, 4, .inl (fun _ => 0))), (q6, .inl (cI, 3, .inl (fun _ => 0))), (q7, .inl (cI, 5, .inl (fun _ => 0))), (q8, .inl (cI, 45, .inl (fun _ => 0))), (q9, .inl (cI, 9, .inl (fun _ => 0))), (q10, .inl (cI, 4, .inl (fun _ => 0))), (q11, .inl (cI, 3, .inl (fun _ => 0)))]) rfl ?_
  refine hk_widen (k1 := 11) (k2 := 332) (Nat.le_of_ble_eq_true rfl) (Nat.le_of_ble_eq_true rfl) ?_
  refine hk_putF hC jk_M 0 rfl 19 (by decide) jq_717 rfl hnm rfl rfl rfl (Nat.le_of_ble_eq_true rfl) (ws2 := [(h0, .inr (6, [.ref q1, .int 0, .int 0, .int 0, .int 0, .int 0, .ref q2, .ref q3, .ref q4, .ref q5, .ref q6, .int 0, .int 0, .int 0, .int 0, .ref q7, .ref q8, .ref q9, .ref q10, .ref q11, .null, .int 0, .null, .null, .int 0, .null, .null, .int 0, .null])), (q1, .inl (cI, 200, .inl (fun _ => 0))), (q2, .inl (cI, 5, .inl (fun _ => 0))), (q3, .inl (cI, 45, .inl (fun _ => 0))), (q4, .inl (cI, 9, .inl (fun _ => 0))), (q5, .inl (cI, 4, .inl (fun _ => 0))), (q6, .inl (cI, 3, .inl (fun _ => 0))), (q7, .inl (cI, 5, .inl (fun _ => 0))), (q8, .inl (cI, 45, .inl (fun _ => 0))), (q9, .inl (cI, 9, .inl (fun _ => 0))), (q10, .inl (cI, 4, .inl (fun _ => 0))), (q11, .inl (cI, 3, .inl (fun _ => 0)))]) rfl jd_M_init_84 ?_
  refine hk_aload_n hC jd_M_init_87 0 rfl ?_
  refine hk_bipush (v := 93) hC jd_M_init_88 (by decide) ?_
  refine hk_newa (N' := 93) hC (by decide) (by decide) (by decide) ⟨Nat.le_of_ble_eq_true rfl, Nat.le_of_ble_eq_true rfl⟩ jd_M_init_90 (fun q12 => ?_)
  refine hk_ws (ws2 := [(h0, .inr (6, [.ref q1, .int 0, .int 0, .int 0, .int 0, .int 0, .ref q2, .ref q3, .ref q4, .ref q5, .ref q6, .int 0, .int 0, .int 0, .int 0, .ref q7, .ref q8, .ref q9, .ref q10, .ref q11, .null, .int 0, .null, .null, .int 0, .null, .null, .int 0, .null])), (q1, .inl (cI, 200, .inl (fun _ => 0))), (q2, .inl (cI, 5, .inl (fun _ => 0))), (q3, .inl (cI, 45, .inl (fun _ => 0))), (q4, .inl (cI, 9, .inl (fun _ => 0))), (q5, .inl (cI, 4, .inl (fun _ => 0))), (q6, .inl (cI, 3, .inl (fun _ => 0))), (q7, .inl (cI, 5, .inl (fun _ => 0))), (q8, .inl (cI, 45, .inl (fun _ => 0))), (q9, .inl (cI, 9, .inl (fun _ => 0))), (q10, .inl (cI, 4, .inl (fun _ => 0))), (q11, .inl (cI, 3, .inl (fun _ => 0))), (q12, .inl (cI, 93, .inl (fun _ => 0)))]) rfl ?_
  refine hk_widen (k1 := 12) (k2 := 425) (Nat.le_of_ble_eq_true rfl) (Nat.le_of_ble_eq_true rfl) ?_
  refine hk_putF hC jk_M 0 rfl 20 (by decide) jq_718 rfl hnm rfl rfl rfl (Nat.le_of_ble_eq_true rfl) (ws2 := [(h0, .inr (6, [.ref q1, .int 0, .int 0, .int 0, .int 0, .int 0, .ref q2, .ref q3, .ref q4, .ref q5, .ref q6, .int 0, .int 0, .int 0, .int 0, .ref q7, .ref q8, .ref q9, .ref q10, .ref q11, .ref q12, .int 0, .null, .null, .int 0, .null, .null, .int 0, .null])), (q1, .inl (cI, 200, .inl (fun _ => 0))), (q2, .inl (cI, 5, .inl (fun _ => 0))), (q3, .inl (cI, 45, .inl (fun _ => 0))), (q4, .inl (cI, 9, .inl (fun _ => 0))), (q5, .inl (cI, 4, .inl (fun _ => 0))), (q6, .inl (cI, 3, .inl (fun _ => 0))), (q7, .inl (cI, 5, .inl (fun _ => 0))), (q8, .inl (cI, 45, .inl (fun _ => 0))), (q9, .inl (cI, 9, .inl (fun _ => 0))), (q10, .inl (cI, 4, .inl (fun _ => 0))), (q11, .inl (cI, 3, .inl (fun _ => 0))), (q12, .inl (cI, 93, .inl (fun _ => 0)))]) rfl jd_M_init_92 ?_
  refine hk_aload_n hC jd_M_init_95 0 rfl ?_
  refine hk_sipush (v := 744) hC jd_M_init_96 (by decide) ?_
  refine hk_newa (N' := 744) hC (by decide) (by decide) (by decide) ⟨Nat.le_of_ble_eq_true rfl, Nat.le_of_ble_eq_true rfl⟩ jd_M_init_99 (fun q13 => ?_)
  refine hk_ws (ws2 := [(h0, .inr (6, [.ref q1, .int 0, .int 0, .int 0, .int 0, .int 0, .ref q2, .ref q3, .ref q4, .ref q5, .ref q6, .int 0, .int 0, .int 0, .int 0, .ref q7, .ref q8, .ref q9, .ref q10, .ref q11, .ref q12, .int 0, .null, .null, .int 0, .null, .null, .int 0, .null])), (q1, .inl (cI, 200, .inl (fun _ => 0))), (q2, .inl (cI, 5, .inl (fun _ => 0))), (q3, .inl (cI, 45, .inl (fun _ => 0))), (q4, .inl (cI, 9, .inl (fun _ => 0))), (q5, .inl (cI, 4, .inl (fun _ => 0))), (q6, .inl (cI, 3, .inl (fun _ => 0))), (q7, .inl (cI, 5, .inl (fun _ => 0))), (q8, .inl (cI, 45, .inl (fun _ => 0))), (q9, .inl (cI, 9, .inl (fun _ => 0))), (q10, .inl (cI, 4, .inl (fun _ => 0))), (q11, .inl (cI, 3, .inl (fun _ => 0))), (q12, .inl (cI, 93, .inl (fun _ => 0))), (q13, .inl (cI, 744, .inl (fun _ => 0)))]) rfl ?_
  refine hk_widen (k1 := 13) (k2 := 1169) (Nat.le_of_ble_eq_true rfl) (Nat.le_of_ble_eq_true rfl) ?_
  refine hk_putF hC jk_M 0 rfl 22 (by decide) jq_720 rfl hnm rfl rfl rfl (Nat.le_of_ble_eq_true rfl) (ws2 := [(h0, .inr (6, [.ref q1, .int 0, .int 0, .int 0, .int 0, .int 0, .ref q2, .ref q3, .ref q4, .ref q5, .ref q6, .int 0, .int 0, .int 0, .int 0, .ref q7, .ref q8, .ref q9, .ref q10, .ref q11, .ref q12, .int 0, .ref q13, .null, .int 0, .null, .null, .int 0, .null])), (q1, .inl (cI, 200, .inl (fun _ => 0))), (q2, .inl (cI, 5, .inl (fun _ => 0))), (q3, .inl (cI, 45, .inl (fun _ => 0))), (q4, .inl (cI, 9, .inl (fun _ => 0))), (q5, .inl (cI, 4, .inl (fun _ => 0))), (q6, .inl (cI, 3, .inl (fun _ => 0))), (q7, .inl (cI, 5, .inl (fun _ => 0))), (q8, .inl (cI, 45, .inl (fun _ => 0))), (q9, .inl (cI, 9, .inl (fun _ => 0))), (q10, .inl (cI, 4, .inl (fun _ => 0))), (q11, .inl (cI, 3, .inl (fun _ => 0))), (q12, .inl (cI, 93, .inl (fun _ => 0))), (q13, .inl (cI, 744, .inl (fun _ => 0)))]) rfl jd_M_init_101 ?_
  refine hk_aload_n hC jd_M_init_104 0 rfl ?_
  refine hk_bipush (v := 93) hC jd_M_init_105 (by decide) ?_
  refine hk_newa (N' := 93) hC (by decide) (by decide) (by decide) ⟨Nat.le_of_ble_eq_true rfl, Nat.le_of_ble_eq_true rfl⟩ jd_M_init_107 (fun q14 => ?_)
  refine hk_ws (ws2 := [(h0, .inr (6, [.ref q1, .int 0, .int 0, .int 0, .int 0, .int 0, .ref q2, .ref q3, .ref q4, .ref q5, .ref q6, .int 0, .int 0, .int 0, .int 0, .ref q7, .ref q8, .ref q9, .ref q10, .ref q11, .ref q12, .int 0, .ref q13, .null, .int 0, .null, .null, .int 0, .null])), (q1, .inl (cI, 200, .inl (fun _ => 0))), (q2, .inl (cI, 5, .inl (fun _ => 0))), (q3, .inl (cI, 45, .inl (fun _ => 0))), (q4, .inl (cI, 9, .inl (fun _ => 0))), (q5, .inl (cI, 4, .inl (fun _ => 0))), (q6, .inl (cI, 3, .inl (fun _ => 0))), (q7, .inl (cI, 5, .inl (fun _ => 0))), (q8, .inl (cI, 45, .inl (fun _ => 0))), (q9, .inl (cI, 9, .inl (fun _ => 0))), (q10, .inl (cI, 4, .inl (fun _ => 0))), (q11, .inl (cI, 3, .inl (fun _ => 0))), (q12, .inl (cI, 93, .inl (fun _ => 0))), (q13, .inl (cI, 744, .inl (fun _ => 0))), (q14, .inl (cI, 93, .inl (fun _ => 0)))]) rfl ?_
  refine hk_widen (k1 := 14) (k2 := 1262) (Nat.le_of_ble_eq_true rfl) (Nat.le_of_ble_eq_true rfl) ?_
  refine hk_putF hC jk_M 0 rfl 23 (by decide) jq_721 rfl hnm rfl rfl rfl (Nat.le_of_ble_eq_true rfl) (ws2 := [(h0, .inr (6, [.ref q1, .int 0, .int 0, .int 0, .int 0, .int 0, .ref q2, .ref q3, .ref q4, .ref q5, .ref q6, .int 0, .int 0, .int 0, .int 0, .ref q7, .ref q8, .ref q9, .ref q10, .ref q11, .ref q12, .int 0, .ref q13, .ref q14, .int 0, .null, .null, .int 0, .null])), (q1, .inl (cI, 200, .inl (fun _ => 0))), (q2, .inl (cI, 5, .inl (fun _ => 0))), (q3, .inl (cI, 45, .inl (fun _ => 0))), (q4, .inl (cI, 9, .inl (fun _ => 0))), (q5, .inl (cI, 4, .inl (fun _ => 0))), (q6, .inl (cI, 3, .inl (fun _ => 0))), (q7, .inl (cI, 5, .inl (fun _ => 0))), (q8, .inl (cI, 45, .inl (fun _ => 0))), (q9, .inl (cI, 9, .inl (fun _ => 0))), (q10, .inl (cI, 4, .inl (fun _ => 0))), (q11, .inl (cI, 3, .inl (fun _ => 0))), (q12, .inl (cI, 93, .inl (fun _ => 0))), (q13, .inl (cI, 744, .inl (fun _ => 0))), (q14, .inl (cI, 93, .inl (fun _ => 0)))]) rfl jd_M_init_109 ?_
  refine hk_aload_n hC jd_M_init_112 0 rfl ?_
  refine hk_bipush (v := 6) hC jd_M_init_113 (by decide) ?_
  refine hk_newa (N' := 6) hC (by decide) (by decide) (by decide) ⟨Nat.le_of_ble_eq_true rfl, Nat.le_of_ble_eq_true rfl⟩ jd_M_init_115 (fun q15 => ?_)
  refine hk_ws (ws2 := [(h0, .inr (6, [.ref q1, .int 0, .int 0, .int 0, .int 0, .int 0, .ref q2, .ref q3, .ref q4, .ref q5, .ref q6, .int 0, .int 0, .int 0, .int 0, .ref q7, .ref q8, .ref q9, .ref q10, .ref q11, .ref q12, .int 0, .ref q13, .ref q14, .int 0, .null, .null, .int 0, .null])), (q1, .inl (cI, 200, .inl (fun _ => 0))), (q2, .inl (cI, 5, .inl (fun _ => 0))), (q3, .inl (cI, 45, .inl (fun _ => 0))), (q4, .inl (cI, 9, .inl (fun _ => 0))), (q5, .inl (cI, 4, .inl (fun _ => 0))), (q6, .inl (cI, 3, .inl (fun _ => 0))), (q7, .inl (cI, 5, .inl (fun _ => 0))), (q8, .inl (cI, 45, .inl (fun _ => 0))), (q9, .inl (cI, 9, .inl (fun _ => 0))), (q10, .inl (cI, 4, .inl (fun _ => 0))), (q11, .inl (cI, 3, .inl (fun _ => 0))), (q12, .inl (cI, 93, .inl (fun _ => 0))), (q13, .inl (cI, 744, .inl (fun _ => 0))), (q14, .inl (cI, 93, .inl (fun _ => 0))), (q15, .inl (cI, 6, .inl (fun _ => 0)))]) rfl ?_
  refine hk_widen (k1 := 15) (k2 := 1268) (Nat.le_of_ble_eq_true rfl) (Nat.le_of_ble_eq_true rfl) ?_
  refine hk_putF hC jk_M 0 rfl 25 (by decide) jq_723 rfl hnm rfl rfl rfl (Nat.le_of_ble_eq_true rfl) (ws2 := [(h0, .inr (6, [.ref q1, .int 0, .int 0, .int 0, .int 0, .int 0, .ref q2, .ref q3, .ref q4, .ref q5, .ref q6, .int 0, .int 0, .int 0, .int 0, .ref q7, .ref q8, .ref q9, .ref q10, .ref q11, .ref q12, .int 0, .ref q13, .ref q14, .int 0, .ref q15, .null, .int 0, .null])), (q1, .inl (cI, 200, .inl (fun _ => 0))), (q2, .inl (cI, 5, .inl (fun _ => 0))), (q3, .inl (cI, 45, .inl (fun _ => 0))), (q4, .inl (cI, 9, .inl (fun _ => 0))), (q5, .inl (cI, 4, .inl (fun _ => 0))), (q6, .inl (cI, 3, .inl (fun _ => 0))), (q7, .inl (cI, 5, .inl (fun _ => 0))), (q8, .inl (cI, 45, .inl (fun _ => 0))), (q9, .inl (cI, 9, .inl (fun _ => 0))), (q10, .inl (cI, 4, .inl (fun _ => 0))), (q11, .inl (cI, 3, .inl (fun _ => 0))), (q12, .inl (cI, 93, .inl (fun _ => 0))), (q13, .inl (cI, 744, .inl (fun _ => 0))), (q14, .inl (cI, 93, .inl (fun _ => 0))), (q15, .inl (cI, 6, .inl (fun _ => 0)))]) rfl jd_M_init_117 ?_
  refine hk_aload_n hC jd_M_init_120 0 rfl ?_
  refine hk_bipush (v := 6) hC jd_M_init_121 (by decide) ?_
  refine hk_newa (N' := 6) hC (by decide) (by decide) (by decide) ⟨Nat.le_of_ble_eq_true rfl, Nat.le_of_ble_eq_true rfl⟩ jd_M_init_123 (fun q16 => ?_)
  refine hk_ws (ws2 := [(h0, .inr (6, [.ref q1, .int 0, .int 0, .int 0, .int 0, .int 0, .ref q2, .ref q3, .ref q4, .ref q5, .ref q6, .int 0, .int 0, .int 0, .int 0, .ref q7, .ref q8, .ref q9, .ref q10, .ref q11, .ref q12, .int 0, .ref q13, .ref q14, .int 0, .ref q15, .null, .int 0, .null])), (q1, .inl (cI, 200, .inl (fun _ => 0))), (q2, .inl (cI, 5, .inl (fun _ => 0))), (q3, .inl (cI, 45, .inl (fun _ => 0))), (q4, .inl (cI, 9, .inl (fun _ => 0))), (q5, .inl (cI, 4, .inl (fun _ => 0))), (q6, .inl (cI, 3, .inl (fun _ => 0))), (q7, .inl (cI, 5, .inl (fun _ => 0))), (q8, .inl (cI, 45, .inl (fun _ => 0))), (q9, .inl (cI, 9, .inl (fun _ => 0))), (q10, .inl (cI, 4, .inl (fun _ => 0))), (q11, .inl (cI, 3, .inl (fun _ => 0))), (q12, .inl (cI, 93, .inl (fun _ => 0))), (q13, .inl (cI, 744, .inl (fun _ => 0))), (q14, .inl (cI, 93, .inl (fun _ => 0))), (q15, .inl (cI, 6, .inl (fun _ => 0))), (q16, .inl (cI, 6, .inl (fun _ => 0)))]) rfl ?_
  refine hk_widen (k1 := 16) (k2 := 1274) (Nat.le_of_ble_eq_true rfl) (Nat.le_of_ble_eq_true rfl) ?_
  refine hk_putF hC jk_M 0 rfl 26 (by decide) jq_724 rfl hnm rfl rfl rfl (Nat.le_of_ble_eq_true rfl) (ws2 := [(h0, .inr (6, [.ref q1, .int 0, .int 0, .int 0, .int 0, .int 0, .ref q2, .ref q3, .ref q4, .ref q5, .ref q6, .int 0, .int 0, .int 0, .int 0, .ref q7, .ref q8, .ref q9, .ref q10, .ref q11, .ref q12, .int 0, .ref q13, .ref q14, .int 0, .ref q15, .ref q16, .int 0, .null])), (q1, .inl (cI, 200, .inl (fun _ => 0))), (q2, .inl (cI, 5, .inl (fun _ => 0))), (q3, .inl (cI, 45, .inl (fun _ => 0))), (q4, .inl (cI, 9, .inl (fun _ => 0))), (q5, .inl (cI, 4, .inl (fun _ => 0))), (q6, .inl (cI, 3, .inl (fun _ => 0))), (q7, .inl (cI, 5, .inl (fun _ => 0))), (q8, .inl (cI, 45, .inl (fun _ => 0))), (q9, .inl (cI, 9, .inl (fun _ => 0))), (q10, .inl (cI, 4, .inl (fun _ => 0))), (q11, .inl (cI, 3, .inl (fun _ => 0))), (q12, .inl (cI, 93, .inl (fun _ => 0))), (q13, .inl (cI, 744, .inl (fun _ => 0))), (q14, .inl (cI, 93, .inl (fun _ => 0))), (q15, .inl (cI, 6, .inl (fun _ => 0))), (q16, .inl (cI, 6, .inl (fun _ => 0)))]) rfl jd_M_init_125 ?_
  refine hk_aload_n hC jd_M_init_128 0 rfl ?_
  refine hk_sipush (v := 186) hC jd_M_init_129 (by decide) ?_
  refine hk_newa (N' := 186) hC (by decide) (by decide) (by decide) ⟨Nat.le_of_ble_eq_true rfl, Nat.le_of_ble_eq_true rfl⟩ jd_M_init_132 (fun q17 => ?_)
  refine hk_ws (ws2 := [(h0, .inr (6, [.ref q1, .int 0, .int 0, .int 0, .int 0, .int 0, .ref q2, .ref q3, .ref q4, .ref q5, .ref q6, .int 0, .int 0, .int 0, .int 0, .ref q7, .ref q8, .ref q9, .ref q10, .ref q11, .ref q12, .int 0, .ref q13, .ref q14, .int 0, .ref q15, .ref q16, .int 0, .null])), (q1, .inl (cI, 200, .inl (fun _ => 0))), (q2, .inl (cI, 5, .inl (fun _ => 0))), (q3, .inl (cI, 45, .inl (fun _ => 0))), (q4, .inl (cI, 9, .inl (fun _ => 0))), (q5, .inl (cI, 4, .inl (fun _ => 0))), (q6, .inl (cI, 3, .inl (fun _ => 0))), (q7, .inl (cI, 5, .inl (fun _ => 0))), (q8, .inl (cI, 45, .inl (fun _ => 0))), (q9, .inl (cI, 9, .inl (fun _ => 0))), (q10, .inl (cI, 4, .inl (fun _ => 0))), (q11, .inl (cI, 3, .inl (fun _ => 0))), (q12, .inl (cI, 93, .inl (fun _ => 0))), (q13, .inl (cI, 744, .inl (fun _ => 0))), (q14, .inl (cI, 93, .inl (fun _ => 0))), (q15, .inl (cI, 6, .inl (fun _ => 0))), (q16, .inl (cI, 6, .inl (fun _ => 0))), (q17, .inl (cI, 186, .inl (fun _ => 0)))]) rfl ?_
  refine hk_widen (k1 := 17) (k2 := 1460) (Nat.le_of_ble_eq_true rfl) (Nat.le_of_ble_eq_true rfl) ?_
  refine hk_putF hC jk_M 0 rfl 28 (by decide) jq_726 rfl hnm rfl rfl rfl (Nat.le_of_ble_eq_true rfl) (ws2 := [(h0, .inr (6, [.ref q1, .int 0, .int 0, .int 0, .int 0, .int 0, .ref q2, .ref q3, .ref q4, .ref q5, .ref q6, .int 0, .int 0, .int 0, .int 0, .ref q7, .ref q8, .ref q9, .ref q10, .ref q11, .ref q12, .int 0, .ref q13, .ref q14, .int 0, .ref q15, .ref q16, .int 0, .ref q17])), (q1, .inl (cI, 200, .inl (fun _ => 0))), (q2, .inl (cI, 5, .inl (fun _ => 0))), (q3, .inl (cI, 45, .inl (fun _ => 0))), (q4, .inl (cI, 9, .inl (fun _ => 0))), (q5, .inl (cI, 4, .inl (fun _ => 0))), (q6, .inl (cI, 3, .inl (fun _ => 0))), (q7, .inl (cI, 5, .inl (fun _ => 0))), (q8, .inl (cI, 45, .inl (fun _ => 0))), (q9, .inl (cI, 9, .inl (fun _ => 0))), (q10, .inl (cI, 4, .inl (fun _ => 0))), (q11, .inl (cI, 3, .inl (fun _ => 0))), (q12, .inl (cI, 93, .inl (fun _ => 0))), (q13, .inl (cI, 744, .inl (fun _ => 0))), (q14, .inl (cI, 93, .inl (fun _ => 0))), (q15, .inl (cI, 6, .inl (fun _ => 0))), (q16, .inl (cI, 6, .inl (fun _ => 0))), (q17, .inl (cI, 186, .inl (fun _ => 0)))]) rfl jd_M_init_134 ?_
  refine hk_bipush (v := 47) hC jd_M_init_137 (by decide) ?_
  refine hk_newa (N' := 47) hC (by decide) (by decide) (by decide) ⟨Nat.le_of_ble_eq_true rfl, Nat.le_of_ble_eq_true rfl⟩ jd_M_init_139 (fun q18 => ?_)
  refine hk_ws (ws2 := [(h0, .inr (6, [.ref q1, .int 0, .int 0, .int 0, .int 0, .int 0, .ref q2, .ref q3, .ref q4, .ref q5, .ref q6, .int 0, .int 0, .int 0, .int 0, .ref q7, .ref q8, .ref q9, .ref q10, .ref q11, .ref q12, .int 0, .ref q13, .ref q14, .int 0, .ref q15, .ref q16, .int 0, .ref q17])), (q1, .inl (cI, 200, .inl (fun _ => 0))), (q2, .inl (cI, 5, .inl (fun _ => 0))), (q3, .inl (cI, 45, .inl (fun _ => 0))), (q4, .inl (cI, 9, .inl (fun _ => 0))), (q5, .inl (cI, 4, .inl (fun _ => 0))), (q6, .inl (cI, 3, .inl (fun _ => 0))), (q7, .inl (cI, 5, .inl (fun _ => 0))), (q8, .inl (cI, 45, .inl (fun _ => 0))), (q9, .inl (cI, 9, .inl (fun _ => 0))), (q10, .inl (cI, 4, .inl (fun _ => 0))), (q11, .inl (cI, 3, .inl (fun _ => 0))), (q12, .inl (cI, 93, .inl (fun _ => 0))), (q13, .inl (cI, 744, .inl (fun _ => 0))), (q14, .inl (cI, 93, .inl (fun _ => 0))), (q15, .inl (cI, 6, .inl (fun _ => 0))), (q16, .inl (cI, 6, .inl (fun _ => 0))), (q17, .inl (cI, 186, .inl (fun _ => 0))), (q18, .inl (cI, 47, .inl (fun _ => 0)))]) rfl ?_
  refine hk_widen (k1 := 18) (k2 := 1507) (Nat.le_of_ble_eq_true rfl) (Nat.le_of_ble_eq_true rfl) ?_
  refine hk_ws (ws2 := (wM cI (fun j => ([h0, q1, q2, q3, q4, q5, q6, q7, q8, q9, q10, q11, q12, q13, q14, q15, q16, q17] : List Nat).getD j 0) (fun _ => 0) 0 0 0 0 0 (fun _ => 0) (fun _ => 0) (fun _ => 0) (fun _ => 0) (fun _ => 0) 0 0 0 0 (fun _ => 0) (fun _ => 0) (fun _ => 0) (fun _ => 0) (fun _ => 0) (fun _ => 0) 0 (fun _ => 0) (fun _ => 0) 0 (fun _ => 0) (fun _ => 0) 0 (fun _ => 0) ++ wA cI (fun _ => q18) 47 (fun _ => 0))) rfl ?_
  exact jw_M_init2 hC hr N (fun j => ([h0, q1, q2, q3, q4, q5, q6, q7, q8, q9, q10, q11, q12, q13, q14, q15, q16, q17] : List Nat).getD j 0) (fun _ => q18) (fun _ => 0) 0 0 0 0 0 (fun _ => 0) (fun _ => 0) (fun _ => 0) (fun _ => 0) (fun _ => 0) 0 0 0 0 (fun _ => 0) (fun _ => 0) (fun _ => 0) (fun _ => 0) (fun _ => 0) (fun _ => 0) 0 (fun _ => 0) (fun _ => 0) 0 (fun _ => 0) (fun _ => 0) 0 (fun _ => 0) (fun _ => 0) h
theorem jc_M_init (l : Launch) (D : va_G) (cI cF : ClassId) (N : Nat) (h0 : Nat) {o : (Nat → Int32) × Int32 × Int32 × Int32 × Int32 × Int32 × (Nat → Int32) × (Nat → Int32) × (Nat → Int32) × (Nat → Int32) × (Nat → Int32) × Int32 × Int32 × Int32 × Int32 × (Nat → Int32) × (Nat → Int32) × (Nat → Int32) × (Nat → Int32) × (Nat → Int32) × (Nat → Int32) × Int32 × Int32 × Int32 × (Nat → Int32)} (h : jf_M_init N (fun _ => 0) 0 0 0 0 0 (fun _ => 0) (fun _ => 0) (fun _ => 0) (fun _ => 0) (fun _ => 0) 0 0 0 0 (fun _ => 0) (fun _ => 0) (fun _ => 0) (fun _ => 0) (fun _ => 0) (fun _ => 0) 0 0 0 (fun _ => 0) = some o) : hk_Mx l jy_M_init jb_M_init 3 jr_M_init D cI cF [(h0, .inr (6, [.null, .int 0, .int 0, .int 0, .int 0, .int 0, .null, .null, .null, .null, .null, .int 0, .int 0, .int 0, .int 0, .null, .null, .null, .null, .null, .null, .int 0, .null, .null, .int 0, .null, .null, .int 0, .null]))] [.ref h0] h0 18 1507 (fun a2 => wM cI a2 o.1 o.2.1 o.2.2.1 o.2.2.2.1 o.2.2.2.2.1 o.2.2.2.2.2.1 o.2.2.2.2.2.2.1 o.2.2.2.2.2.2.2.1 o.2.2.2.2.2.2.2.2.1 o.2.2.2.2.2.2.2.2.2.1 o.2.2.2.2.2.2.2.2.2.2.1 o.2.2.2.2.2.2.2.2.2.2.2.1 o.2.2.2.2.2.2.2.2.2.2.2.2.1 o.2.2.2.2.2.2.2.2.2.2.2.2.2.1 o.2.2.2.2.2.2.2.2.2.2.2.2.2.2.1 o.2.2.2.2.2.2.2.2.2.2.2.2.2.2.2.1 o.2.2.2.2.2.2.2.2.2.2.2.2.2.2.2.2.1 o.2.2.2.2.2.2.2.2.2.2.2.2.2.2.2.2.2.1 o.2.2.2.2.2.2.2.2.2.2.2.2.2.2.2.2.2.2.1 o.2.2.2.2.2.2.2.2.2.2.2.2.2.2.2.2.2.2.2.1 o.2.2.2.2.2.2.2.2.2.2.2.2.2.2.2.2.2.2.2.2.1 o.2.2.2.2.2.2.2.2.2.2.2.2.2.2.2.2.2.2.2.2.2.1 (fun _ => 0) (fun _ => 0) o.2.2.2.2.2.2.2.2.2.2.2.2.2.2.2.2.2.2.2.2.2.2.1 (fun _ => 0) (fun _ => 0) o.2.2.2.2.2.2.2.2.2.2.2.2.2.2.2.2.2.2.2.2.2.2.2.1 (fun _ => 0)) :=
  hk_metX (by decide) (Nat.le_of_ble_eq_true rfl) rfl rfl (fun p e s m args below meth c A hC hr hnm => jw_M_init hC hr hnm N h0 h)
