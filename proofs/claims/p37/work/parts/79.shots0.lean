-- ===== shots: stretches 0 to 21 =====
def shN_0 : Nat := 393216
def shN_1 : Nat := 49178557732150155703035805374265650890705573248616698726561165854510259206859459294900716336733895636326979919417249599323207708616869784177190071883415376921271579930203513659357597458287630415353828835058021752508145304613434566597133175912161595691829324586557883573148712652008552063253741568
def shN_2 : Nat := 49178557732150155703035805374265652858756064847436687710570884592852195200172805433987241221888912554558534649421105133534045505221535719883651105643597187777360130159038046283661839196453352610457522757162921961656122585214093042898480441989325336765216964885597755034338833866984552297832775680
def shN_3 : Nat := 49178567466014136907755974106117015158732780006299804342521356235700094899115590204813983462018386452819228521936150934222951492489962674772360468018900056496396020679241700177293076190819138723725326825305556935106181015250401651631385837458425377070180593030738770554684595851053365236630683648
def shN_4 : Nat := 49178567466014136907755974633806964873482338960373599514602685510050854220963093770445141121070362095168447578742371115933129267649519831767333227024513353259483589520366988893221105386732308555984883848755730387297813546783564523584030376653276557368659704705087586963481946059741385452195020800
def shN_5 : Nat := 49178567466014136907790596944199472077073597375429209427769317244969790323234481894989059593991951355491938615998196866914421071220673916112585159666777198379371647880462298661347868061483994891904783773982205718218005829240504915840263434675840532255798011284032519361072549568899456513549402112
def shN_6 : Nat := 49178567466014136907790596944199472077073597375429209427769317244969790323234481894989059593991951355491938615998196866914421071220673916112585159666777198379371647902643656214314386938111308365049453401473702321224538430604341560757233897120845516575593260117149144140202237260128031145342664704
def shN_7 : Nat := 49178567466014136907790597472494003212738843699130090425811064305224029444941939455747785327062662698057366147933496358133068881825019898819402144063884286356319730525123072912681945225065829833457238418252730263418880956210715714575036704303520811640639648667145112666727596657394857888501334016
def shN_8 : Nat := 49178567466014136907790597472494003212738843699130090425811064305224029444941939455747785327062662698057366147933496358133068881825019898819402144063884286356319730502941715359715426348438516360312568790761233660412348354846879069658066241858515827320844399834028487887597908966166283256708071424
def shN_9 : Nat := 373193961995215648059693059676511943703440027575911976697462545517435484483523750943626044072340405348440365796369207147246481886700022915020364021558005591015386359132994578032028834878619918047591948723851797137078613228096991730343665482589107898669524873566803715941102175331169276865580369724504328369053816391561153129914001883649377932355789929444566845243781286642188288
def shN_10 : Nat := 382887104204302254206386300818365241019910497830620212157904004707892936284562139123956909881190039272382330071227885725194159021975075124872685941190109162128165903822834081765587574920597108626058358062328633897143031747292434867265304533740259256605621617153034649848544322168270474164910715935893357314079135341774608696391181634126397998973236872357714117378919584760201216
def shN_11 : Nat := 2832001174744439135277808088667835863825001017513452646022106892689275973431705229165157071345182097416375304327843707881735710346524204229211917231197628483012243113765871786960206961367285063468147439847488546317013230058353971573890739607435930125647898423793555488940572298941438845271676251388713292533730194716626268697139264370719883544909919039140767254084631608150006130379184849222375681509083753399323987678272582117369260499032188575231169932951552
def shN_12 : Nat := 2832001174744439135277808088667835863825001017513452646022106892689275973431705229165157071345182097416375304327843707881735710346524204229211917231197628483012243113765871786960206961367285063468147439847488546317013230058353971573890739607435930125647898423793555488940572298941438845271676251388713292533730194716626268700773457992197917997656538078580789925852838411586596431786635845125572122076073370030279241247090409921181868530363078242904178076024832
def shN_13 : Nat := 2832001174744439135277808088667835750492655356665495872047418783359681553170812036287544718318085283265128795690483528060277353144809963062244229165287106379213841195880540676363577587031943444800024846039836923037085120530413762139451032650722146441574072095107335265387598940632397816729806931986325474671838794710209940745326737764665265912346195593997751069024360306603091945302872312969769882582755081159759237343750676428597031219746283370624367924215808
def shN_14 : Nat := 2832001174744439135277808088667835750492655356665495872047418783359681553170812036287544718318085283265128795690483528060277353144809963062244229165287106379213841195880540676363577587031943444800024846039836923037085120530413762139451032650722146441574072095107335265387598940632397816729806931986325474671838794710209940741692544143187231459599577757011530777458766182580567200035979333416038483075539266661781408265953707304307476602302566704527312131850240
def shN_15 : Nat := 2832001174744439135277808088667835750492655356665495872047418783359681553170812036287544718318085283265128795690483528060277353144809963062244229165287106379213841195880540676363577587031943444800024846039836923037085120530413762139451032650722146441574072095107335315574445734476545221782694594689530048497352374444369177116444434656692105207797448361492477940312370551082562810981910746894986858772346864072011178779127605880061502596547907283816434987565056
def shN_16 : Nat := 2832001174744439135277808088667835750492655356665495872047418783359681553170812036287544718318085283265128795690483528060277353144809963062244229165287106379213841195880540676363577587031943444800024846039836923037085120530413762139451032650722146441574072095107335315574445734476545221782694594689530048497352374444369177112810241035214070755050829322052455268544163747645972509574459750991790418205357247441055925210309778076248894565217017616143426844491776
def shN_17 : Nat := 2832001174744439135277808088667835750492655356665495872047418783359681553170812036287544718318085283265128795690483528060277353144809963062244229165287106379213841195880540676363577587031943444800024846039836923037085120530413762139451032650722146441574072095107335315574445734476545221782694594056082986225670323744645355230623995306360716498140967381466070644797432389100480368653531147563957731496493030241313891862585917462651498352818080150328356041523200
def shN_18 : Nat := 21490783534854464656677595647405522837372356526880580547021228641382877592019996475677412554804590117161346685777497456264575517149108719839131829755097269408189921683971100052501104540884221838754417557592803276796266298372533084508809437097132274672263951013887320230381743226590095860303638132810275928286582251368339373911367067044584866286398255798914307169106922622631474975588915558641439793747867984482365241100540878733383961626500239441217557923381343483473069796520304116530891760604864592469848742665390278162624541357823884656640
def shN_19 : Nat := 21490783534854464656677595647405522891124119808499255382554918826793133696926798472174848660993230345558623369558693698065287411655537057656872171271750606168632384481966753696021924006806275532768122899661264088176610170673332631924194146760524616123675765815497009282995276745484844794174973742208847957157329502552216425122576838068037872099500714866732252853896347011451656523747034490573777249539198973429633922414928245745433703824197716027965456558156419880101457915172574704175274014135337400671328502005698878142249314364971716837376
def shN_20 : Nat := 21490783534854464656677603496715745901365481156893794483511068470383550617262334560522562961616617429481688512763888772764091180225499407800711979275399355474548354552682244159038420586860646159080177912881567079691122656663314918887778112026271318829353412299221794159773774082941447452298727858215214454413352460077824228079330832321322069295991483575058638515384043564669393278082094692834723720718919556115102160437239342911188500478117346199218728683822515702012192947395478118646374238751421860744226599483661274104909098360807367245824
def shN_21 : Nat := 21490783534854464656677603496715745901365481156893794483511068470383550617262334560522562961616617429481688512763888772764091180225499407800711979275399355474548354552682244159038420586860646159080177912881567079691122656663314918887778112026271318829353412299221794159773774082941447452298727858215214454413354012595916528788265981300810531798546740461075755211995182616707419329034781069721054599127748202593052648167936473984394672058161461013610172971097556883151397402371498968551924408256082155070998215086165793679336015317941023539200
def shN_22 : Nat := 21490783534854464656677603496715745901365481156893794483511068470383550617262334560522562961616617429481688512763888772764091180225499407800711979275399355474548354552682244159038420586860646159080177912881567079691122656663314918887778112026271318829353412299221794159773774082941447452298727858215214454413354012595916528788265981300810531798546740461075755211995182616707419329034781069721054599127748202593052648167936473984394672058161461013610172971097556883151397402371498968551924408256082155070998215086165793679336015036466046828544
def shN_23 : Nat := 163083893135619768892558565773272588850914665127230844473927576193166410847775747880636758863527173514167998722151026208177729569316437469547386593236591504775661802347402301501294539638926141242066391146523335407356502853981444471456845533560142302931367824202679785816468420983331628338239527000470712191010104138193564001405373134462306976787887285351413428180395942599904220642808037626903180861954830900394041111818240362422381050343779335861279129423004889554609988326012068998024187742583812176613014045391960595091713370713974652552228359741348309327484853047539370780765907753904780520105393699334132367217377280000
def shN_24 : Nat := 163083893135619768892558565773272588850914665127236641052613264498196972183366576700537294893692189004484120200154664889362493430711324307986149532174065589281850440920970501260933538333704665109553151275088989764709394798710119999547647820627659384779057333512545458136645145314671249703670067054728317424043398631583559537438130926446483749894058711261199415124797760825897674627582238169267369380606740197176500064623485175030626446083386734070196967019081108260811110117580981577287857273608785547663008957136861885572641792062292183950177082488013474124135538911740436719548919763583809582702804246822671176653596917760
def shN_25 : Nat := 163083893135619768892558565773272588850914665127236641052613264498196972183366576700537294893692189004484120200154664889362493430711324307986149532174065589281850440920970501260933538333704665109553151275088989764709394798710119999547647820627659384779057333512545458136645145314671249703670067054728317424043410412945288171111663821220982104846552950035128611425152832339696427796223827480387234563376541497457180192406716426665713972529675755677968658268295496837026331514244473561730925015872572811687221434381209728510708369105410179597577356857625877777950276238254458296417011418622054942975225104548825284952294031360
def shN_26 : Nat := 163083893135619768892558565773272588850914665127236641052613264498196972183366576700537294893692189004484120200154664889362493430711324307986149532174065589281850440920970501260933538333704665109553151275088989764709394798710119999547647820627659384779057333512545458136645145314671249703670067054728317424043410412945288171111663821220982104846552950035128611425152832339696427796223827480387234563376541497457180192406716426665713972529675755677968658268295496837026331514244473561730925015872572811687221434381209728510708369105410179597577356857625877777950276238254458296417011418622054942975225104530378540878584479744
def shN_27 : Nat := 163083893135619768892558565773272588850914665127236641052613264498196972183366576700537294893692189004484120200154664889362493430711324307986149532174065589281850440920970501260933538333704665109553151275088989764709394798710119999547647820627659384779057333512545458136645145314671249703670067054728317424043410412945288171111663821220982104846552950035128611425152832339696427796223827480385682045284240788522031212918253924110457086512559059066829606230269445884339954627913595152902278537922085080990090361175038148466593554713965892322536175718421422801929426338981294746172093737632581366989175051881841138488802934784
theorem sh_0 {Γ : GTy} (hG : GS Γ) {W : WTy} {Z : HS} {g : GN} {A : FT} (h : CI 0 Z (toF shN_0) g A) (kk : ∀ (Z' : HS) (g' : GN) (A' : FT), CI 1 Z' (toF shN_1) g' A' → G Γ M_L_shots (rm M_L_shots) W (51, 2280) 16 [some (.ref 800000)] [.int (nI 0)] Z') : G Γ M_L_shots (rm M_L_shots) W (41, 2216) 8 [some (.ref 800000)] [] Z := by
  refine G_aload_n (pc := 8) dL_shots_8 rfl ?_
  refine G_iconst (pc := 9) (v := nI 0) dL_shots_9 (by first | rfl | decide) ?_
  refine G_iconst (pc := 10) (v := nI 1) dL_shots_10 (by first | rfl | decide) ?_
  refine G_iconst (pc := 11) (v := nI 2) dL_shots_11 (by first | rfl | decide) ?_
  refine G_iconst (pc := 12) (v := nI 1) dL_shots_12 (by first | rfl | decide) ?_
  refine R_V (pc := 13) (k' := (51, 2280)) mok_X9_begin lk_L_29 (sh_k h.1) rfl rfl rfl rfl (by exact (fun _ => ⟨rfl, fun r hr => by rw [List.mem_singleton.mp (show r ∈ [800000] from hr), sh_k h.1]; decide, fun _ hr => nomatch hr⟩)) dL_shots_13 (k_begin hG h (by decide) (t := 0) (a := 1) (c := 2) (z := nI 1) (m := 0) (by decide) (by decide) (by decide) (Or.inr rfl) (by decide +kernel) (by decide)) (by decide) (by decide +kernel) rfl (fun Y' q => ?_)
  obtain ⟨-, g', A', h'⟩ := q
  refine G_val (w := nI 0) (by decide +kernel) ?_
  exact kk _ _ _ (CI_frz h' (by decide +kernel) (by decide +kernel))
theorem sh_1 {Γ : GTy} (hG : GS Γ) {W : WTy} {Z : HS} {g : GN} {A : FT} (h : CI 1 Z (toF shN_1) g A) (kk : ∀ (Z' : HS) (g' : GN) (A' : FT), CI 1 Z' (toF shN_1) g' A' → G Γ M_L_shots (rm M_L_shots) W (88, 2502) 106 [some (.ref 800000)] [.int (nI 1)] Z') : G Γ M_L_shots (rm M_L_shots) W (51, 2280) 16 [some (.ref 800000)] [.int (nI 0)] Z := by
  refine G_if_ne (pc := 16) (tgt := 369) dL_shots_16 (by decide) (fun h => absurd h (by decide)) (fun _ => ?_)
  refine G_aload_n (pc := 19) dL_shots_19 rfl ?_
  refine G_iconst (pc := 20) (v := nI 0) dL_shots_20 (by first | rfl | decide) ?_
  refine G_bipush (pc := 21) (v := nI 67) dL_shots_21 (by first | rfl | decide) ?_
  refine G_bipush (pc := 23) (v := nI 74) dL_shots_23 (by first | rfl | decide) ?_
  refine G_bipush (pc := 25) (v := nI 59) dL_shots_25 (by first | rfl | decide) ?_
  refine G_bipush (pc := 27) (v := nI 91) dL_shots_27 (by first | rfl | decide) ?_
  refine G_bipush (pc := 29) (v := nI 76) dL_shots_29 (by first | rfl | decide) ?_
  refine G_bipush (pc := 31) (v := nI 77) dL_shots_31 (by first | rfl | decide) ?_
  refine R_S (pc := 33) (k' := (67, 2376)) (as := [.ref 800000, .int (nI 0), .int (nI 67), .int (nI 74), .int (nI 59), .int (nI 91), .int (nI 76), .int (nI 77)]) mok_L_bed lk_L_140 rfl rfl rfl (aok0 rfl) dL_shots_33 (C_bed h (fr_lt h (m := 1) (by decide +kernel) ⟨by decide, by decide⟩) (by decide +kernel) (by decide +kernel) (by decide +kernel) (by decide +kernel) (by decide +kernel) (by decide +kernel) (by decide +kernel) (by decide +kernel)) rfl (fun v Y' q => ?_)
  obtain ⟨rfl, rfl⟩ := q
  show G _ _ _ _ _ _ _ (_ :: _) _
  refine G_if_eq (pc := 36) (tgt := 369) dL_shots_36 (by decide) (fun h => absurd h (by decide)) (fun _ => ?_)
  refine G_aload_n (pc := 39) dL_shots_39 rfl ?_
  refine G_iconst (pc := 40) (v := nI 0) dL_shots_40 (by first | rfl | decide) ?_
  refine G_iconst (pc := 41) (v := nI 1) dL_shots_41 (by first | rfl | decide) ?_
  refine G_iconst (pc := 42) (v := nI 0) dL_shots_42 (by first | rfl | decide) ?_
  refine G_iconst (pc := 43) (v := nI 1) dL_shots_43 (by first | rfl | decide) ?_
  refine G_iconst (pc := 44) (v := nI 0) dL_shots_44 (by first | rfl | decide) ?_
  refine G_iconst (pc := 45) (v := nI 0) dL_shots_45 (by first | rfl | decide) ?_
  refine R_S (pc := 46) (k' := (74, 2418)) (as := [.ref 800000, .int (nI 0), .int (nI 1), .int (nI 0), .int (nI 1), .int (nI 0), .int (nI 0)]) mok_L_frame lk_L_144 rfl rfl rfl (aok0 rfl) dL_shots_46 (C_frame h (fr_lt h (m := 1) (by decide +kernel) ⟨by decide, by decide⟩) (by decide +kernel) (by decide +kernel) (by decide +kernel) (by decide +kernel) (by decide +kernel) (by decide +kernel) (by decide +kernel)) rfl (fun v Y' q => ?_)
  obtain ⟨rfl, rfl⟩ := q
  show G _ _ _ _ _ _ _ (_ :: _) _
  refine G_if_eq (pc := 49) (tgt := 369) dL_shots_49 (by decide) (fun h => absurd h (by decide)) (fun _ => ?_)
  refine G_aload_n (pc := 52) dL_shots_52 rfl ?_
  refine G_iconst (pc := 53) (v := nI 1) dL_shots_53 (by first | rfl | decide) ?_
  refine G_bipush (pc := 54) (v := nI 40) dL_shots_54 (by first | rfl | decide) ?_
  refine R_V (pc := 56) (k' := (76, 2430)) mok_X9_force lk_L_108 (sh_k h.1) rfl rfl rfl rfl (aok0 rfl) dL_shots_56 (t_force h (c := 1) (z := nI 40) (by decide) ⟨by decide, by decide⟩) (by decide) u2_e rfl (fun Y' q => ?_)
  subst q
  refine G_val (w := nI 30) (by decide +kernel) ?_
  refine G_bipush (pc := 59) (v := nI 30) dL_shots_59 (by first | rfl | decide) ?_
  refine G_icmp_ne (pc := 61) (tgt := 369) dL_shots_61 (by decide) (fun h => absurd h (by decide)) (fun _ => ?_)
  refine G_aload_n (pc := 64) dL_shots_64 rfl ?_
  refine G_iconst (pc := 65) (v := nI 1) dL_shots_65 (by first | rfl | decide) ?_
  refine G_iconst (pc := 66) (v := nI 1) dL_shots_66 (by first | rfl | decide) ?_
  refine R_V (pc := 67) (k' := (78, 2442)) mok_X9_force lk_L_108 (sh_k h.1) rfl rfl rfl rfl (aok0 rfl) dL_shots_67 (t_force h (c := 1) (z := nI 1) (by decide) ⟨by decide, by decide⟩) (by decide) u2_e rfl (fun Y' q => ?_)
  subst q
  refine G_val (w := nI 1) (by decide +kernel) ?_
  refine G_iconst (pc := 70) (v := nI 1) dL_shots_70 (by first | rfl | decide) ?_
  refine G_icmp_ne (pc := 71) (tgt := 369) dL_shots_71 (by decide) (fun h => absurd h (by decide)) (fun _ => ?_)
  refine G_aload_n (pc := 74) dL_shots_74 rfl ?_
  refine G_iconst (pc := 75) (v := nI 1) dL_shots_75 (by first | rfl | decide) ?_
  refine G_iconst (pc := 76) (v := nI 2) dL_shots_76 (by first | rfl | decide) ?_
  refine R_V (pc := 77) (k' := (80, 2454)) mok_X9_force lk_L_108 (sh_k h.1) rfl rfl rfl rfl (aok0 rfl) dL_shots_77 (t_force h (c := 1) (z := nI 2) (by decide) ⟨by decide, by decide⟩) (by decide) u2_e rfl (fun Y' q => ?_)
  subst q
  refine G_val (w := nI 1) (by decide +kernel) ?_
  refine G_iconst (pc := 80) (v := nI 1) dL_shots_80 (by first | rfl | decide) ?_
  refine G_icmp_ne (pc := 81) (tgt := 369) dL_shots_81 (by decide) (fun h => absurd h (by decide)) (fun _ => ?_)
  refine G_aload_n (pc := 84) dL_shots_84 rfl ?_
  refine G_iconst (pc := 85) (v := nI 1) dL_shots_85 (by first | rfl | decide) ?_
  refine G_bipush (pc := 86) (v := nI 16) dL_shots_86 (by first | rfl | decide) ?_
  refine R_V (pc := 88) (k' := (82, 2466)) mok_X9_force lk_L_108 (sh_k h.1) rfl rfl rfl rfl (aok0 rfl) dL_shots_88 (t_force h (c := 1) (z := nI 16) (by decide) ⟨by decide, by decide⟩) (by decide) u2_e rfl (fun Y' q => ?_)
  subst q
  refine G_val (w := nI 12) (by decide +kernel) ?_
  refine G_bipush (pc := 91) (v := nI 12) dL_shots_91 (by first | rfl | decide) ?_
  refine G_icmp_ne (pc := 93) (tgt := 369) dL_shots_93 (by decide) (fun h => absurd h (by decide)) (fun _ => ?_)
  refine G_aload_n (pc := 96) dL_shots_96 rfl ?_
  refine G_iconst (pc := 97) (v := nI 0) dL_shots_97 (by first | rfl | decide) ?_
  refine G_iconst (pc := 98) (v := nI 2) dL_shots_98 (by first | rfl | decide) ?_
  refine G_bipush (pc := 99) (v := nI 12) dL_shots_99 (by first | rfl | decide) ?_
  refine G_bipush (pc := 101) (v := nI 8) dL_shots_101 (by first | rfl | decide) ?_
  refine R_S (pc := 103) (k' := (88, 2502)) (as := [.ref 800000, .int (nI 0), .int (nI 2), .int (nI 12), .int (nI 8)]) mok_L_meets lk_L_148 rfl rfl rfl (aok0 rfl) dL_shots_103 (k_meets hG h (N := 53344115464591352284939523260919041865620569133784151300286759105251349940567107524857834493303318978269186394682416755919357093379020661263944705531165039095565843281935949630381571824427198990094158484153777751905126802125083838099526516810) (fr_lt h (m := 1) (by decide +kernel) ⟨by decide, by decide⟩) (by decide) ⟨by decide, by decide⟩ (by decide +kernel) (by decide +kernel)) rfl (fun v Y' q => ?_)
  obtain ⟨rfl, q2⟩ := q
  show G _ _ _ _ _ _ _ (_ :: _) _
  exact kk _ _ _ q2
theorem sh_2 {Γ : GTy} (hG : GS Γ) {W : WTy} {Z : HS} {g : GN} {A : FT} (h : CI 1 Z (toF shN_1) g A) (kk : ∀ (Z' : HS) (g' : GN) (A' : FT), CI 1 Z' (toF shN_1) g' A' → G Γ M_L_shots (rm M_L_shots) W (94, 2538) 117 [some (.ref 800000)] [.int (nI 1)] Z') : G Γ M_L_shots (rm M_L_shots) W (88, 2502) 106 [some (.ref 800000)] [.int (nI 1)] Z := by
  refine G_if_eq (pc := 106) (tgt := 369) dL_shots_106 (by decide) (fun h => absurd h (by decide)) (fun _ => ?_)
  refine G_aload_n (pc := 109) dL_shots_109 rfl ?_
  refine G_iconst (pc := 110) (v := nI 0) dL_shots_110 (by first | rfl | decide) ?_
  refine G_iconst (pc := 111) (v := nI 0) dL_shots_111 (by first | rfl | decide) ?_
  refine G_iconst (pc := 112) (v := nI 3) dL_shots_112 (by first | rfl | decide) ?_
  refine G_iconst (pc := 113) (v := nI 0) dL_shots_113 (by first | rfl | decide) ?_
  refine R_S (pc := 114) (k' := (94, 2538)) (as := [.ref 800000, .int (nI 0), .int (nI 0), .int (nI 3), .int (nI 0)]) mok_L_meets lk_L_148 rfl rfl rfl (aok0 rfl) dL_shots_114 (k_meets hG h (N := 6668014431327336181779142855572278308682255767059022143279561200624985199791581118835055314540675881914283432642945509748757728447947785036248541660886542771053976440309561658358122428887800461293175218208489114487170222677457504058929578003) (fr_lt h (m := 1) (by decide +kernel) ⟨by decide, by decide⟩) (by decide) ⟨by decide, by decide⟩ (by decide +kernel) (by decide +kernel)) rfl (fun v Y' q => ?_)
  obtain ⟨rfl, q2⟩ := q
  show G _ _ _ _ _ _ _ (_ :: _) _
  exact kk _ _ _ q2
theorem sh_3 {Γ : GTy} (hG : GS Γ) {W : WTy} {Z : HS} {g : GN} {A : FT} (h : CI 1 Z (toF shN_1) g A) (kk : ∀ (Z' : HS) (g' : GN) (A' : FT), CI 1 Z' (toF shN_1) g' A' → G Γ M_L_shots (rm M_L_shots) W (100, 2574) 129 [some (.ref 800000)] [.int (nI 1)] Z') : G Γ M_L_shots (rm M_L_shots) W (94, 2538) 117 [some (.ref 800000)] [.int (nI 1)] Z := by
  refine G_if_eq (pc := 117) (tgt := 369) dL_shots_117 (by decide) (fun h => absurd h (by decide)) (fun _ => ?_)
  refine G_aload_n (pc := 120) dL_shots_120 rfl ?_
  refine G_iconst (pc := 121) (v := nI 0) dL_shots_121 (by first | rfl | decide) ?_
  refine G_iconst (pc := 122) (v := nI 1) dL_shots_122 (by first | rfl | decide) ?_
  refine G_bipush (pc := 123) (v := nI 40) dL_shots_123 (by first | rfl | decide) ?_
  refine G_iconst (pc := 125) (v := nI 0) dL_shots_125 (by first | rfl | decide) ?_
  refine R_S (pc := 126) (k' := (100, 2574)) (as := [.ref 800000, .int (nI 0), .int (nI 1), .int (nI 40), .int (nI 0)]) mok_L_meets lk_L_148 rfl rfl rfl (aok0 rfl) dL_shots_126 (k_meets hG h (N := 28638903925142975635746120115453981346294017480852908296500471845590625205977889359136865384660166371055513324628867817617277780966420362317934137239411169493373400584115836349533319631887305152100666625107541816785139473515701922268471910447047507967) (fr_lt h (m := 1) (by decide +kernel) ⟨by decide, by decide⟩) (by decide) ⟨by decide, by decide⟩ (by decide +kernel) (by decide +kernel)) rfl (fun v Y' q => ?_)
  obtain ⟨rfl, q2⟩ := q
  show G _ _ _ _ _ _ _ (_ :: _) _
  exact kk _ _ _ q2
theorem sh_4 {Γ : GTy} (hG : GS Γ) {W : WTy} {Z : HS} {g : GN} {A : FT} (h : CI 1 Z (toF shN_1) g A) (kk : ∀ (Z' : HS) (g' : GN) (A' : FT), CI 1 Z' (toF shN_1) g' A' → G Γ M_L_shots (rm M_L_shots) W (106, 2610) 141 [some (.ref 800000)] [.int (nI 1)] Z') : G Γ M_L_shots (rm M_L_shots) W (100, 2574) 129 [some (.ref 800000)] [.int (nI 1)] Z := by
  refine G_if_eq (pc := 129) (tgt := 369) dL_shots_129 (by decide) (fun h => absurd h (by decide)) (fun _ => ?_)
  refine G_aload_n (pc := 132) dL_shots_132 rfl ?_
  refine G_iconst (pc := 133) (v := nI 0) dL_shots_133 (by first | rfl | decide) ?_
  refine G_iconst (pc := 134) (v := nI 0) dL_shots_134 (by first | rfl | decide) ?_
  refine G_bipush (pc := 135) (v := nI 40) dL_shots_135 (by first | rfl | decide) ?_
  refine G_iconst (pc := 137) (v := nI 0) dL_shots_137 (by first | rfl | decide) ?_
  refine R_S (pc := 138) (k' := (106, 2610)) (as := [.ref 800000, .int (nI 0), .int (nI 0), .int (nI 40), .int (nI 0)]) mok_L_meets lk_L_148 rfl rfl rfl (aok0 rfl) dL_shots_138 (k_meets hG h (N := 6668014431327336181779142855572278308682255767059022143279561200624985199791581118835055314540675881914283432642945509748757728447947785036248541660886542771053976903477918607622904123171740496044806631288427777049426380507793535711448137779) (fr_lt h (m := 1) (by decide +kernel) ⟨by decide, by decide⟩) (by decide) ⟨by decide, by decide⟩ (by decide +kernel) (by decide +kernel)) rfl (fun v Y' q => ?_)
  obtain ⟨rfl, q2⟩ := q
  show G _ _ _ _ _ _ _ (_ :: _) _
  exact kk _ _ _ q2
theorem sh_5 {Γ : GTy} (hG : GS Γ) {W : WTy} {Z : HS} {g : GN} {A : FT} (h : CI 1 Z (toF shN_1) g A) (kk : ∀ (Z' : HS) (g' : GN) (A' : FT), CI 1 Z' (toF shN_1) g' A' → G Γ M_L_shots (rm M_L_shots) W (112, 2646) 153 [some (.ref 800000)] [.int (nI 1)] Z') : G Γ M_L_shots (rm M_L_shots) W (106, 2610) 141 [some (.ref 800000)] [.int (nI 1)] Z := by
  refine G_if_eq (pc := 141) (tgt := 369) dL_shots_141 (by decide) (fun h => absurd h (by decide)) (fun _ => ?_)
  refine G_aload_n (pc := 144) dL_shots_144 rfl ?_
  refine G_iconst (pc := 145) (v := nI 0) dL_shots_145 (by first | rfl | decide) ?_
  refine G_iconst (pc := 146) (v := nI 2) dL_shots_146 (by first | rfl | decide) ?_
  refine G_bipush (pc := 147) (v := nI 6) dL_shots_147 (by first | rfl | decide) ?_
  refine G_iconst (pc := 149) (v := nI 0) dL_shots_149 (by first | rfl | decide) ?_
  refine R_S (pc := 150) (k' := (112, 2646)) (as := [.ref 800000, .int (nI 0), .int (nI 2), .int (nI 6), .int (nI 0)]) mok_L_meets lk_L_148 rfl rfl rfl (aok0 rfl) dL_shots_150 (k_meets hG h (N := 6668014431327336181779142855572278308682255767059022143279561200624985199791581118835055314540675881914283432642945509748757728447947785036248541660886542771053976671893740132990513276029770478668990924748458445768298301592625519885188857929) (fr_lt h (m := 1) (by decide +kernel) ⟨by decide, by decide⟩) (by decide) ⟨by decide, by decide⟩ (by decide +kernel) (by decide +kernel)) rfl (fun v Y' q => ?_)
  obtain ⟨rfl, q2⟩ := q
  show G _ _ _ _ _ _ _ (_ :: _) _
  exact kk _ _ _ q2
theorem sh_6 {Γ : GTy} (hG : GS Γ) {W : WTy} {Z : HS} {g : GN} {A : FT} (h : CI 1 Z (toF shN_1) g A) (kk : ∀ (Z' : HS) (g' : GN) (A' : FT), CI 1 Z' (toF shN_1) g' A' → G Γ M_L_shots (rm M_L_shots) W (118, 2682) 165 [some (.ref 800000)] [.int (nI 1)] Z') : G Γ M_L_shots (rm M_L_shots) W (112, 2646) 153 [some (.ref 800000)] [.int (nI 1)] Z := by
  refine G_if_eq (pc := 153) (tgt := 369) dL_shots_153 (by decide) (fun h => absurd h (by decide)) (fun _ => ?_)
  refine G_aload_n (pc := 156) dL_shots_156 rfl ?_
  refine G_iconst (pc := 157) (v := nI 0) dL_shots_157 (by first | rfl | decide) ?_
  refine G_iconst (pc := 158) (v := nI 2) dL_shots_158 (by first | rfl | decide) ?_
  refine G_bipush (pc := 159) (v := nI 7) dL_shots_159 (by first | rfl | decide) ?_
  refine G_iconst (pc := 161) (v := nI 1) dL_shots_161 (by first | rfl | decide) ?_
  refine R_S (pc := 162) (k' := (118, 2682)) (as := [.ref 800000, .int (nI 0), .int (nI 2), .int (nI 7), .int (nI 1)]) mok_L_meets lk_L_148 rfl rfl rfl (aok0 rfl) dL_shots_162 (k_meets hG h (N := 6668014434432372366380560725870237285607260877572794177512954422903089275843683024207809087202432699571576388543920971143019874860290945124478170443775118315782811769875934395796709380771981250844489409094419325083685025413405238663867007049) (fr_lt h (m := 1) (by decide +kernel) ⟨by decide, by decide⟩) (by decide) ⟨by decide, by decide⟩ (by decide +kernel) (by decide +kernel)) rfl (fun v Y' q => ?_)
  obtain ⟨rfl, q2⟩ := q
  show G _ _ _ _ _ _ _ (_ :: _) _
  exact kk _ _ _ q2
theorem sh_7 {Γ : GTy} (hG : GS Γ) {W : WTy} {Z : HS} {g : GN} {A : FT} (h : CI 1 Z (toF shN_1) g A) (kk : ∀ (Z' : HS) (g' : GN) (A' : FT), CI 2 Z' (toF shN_2) g' A' → G Γ M_L_shots (rm M_L_shots) W (122, 2706) 175 [some (.ref 800000)] [.int ((-4))] Z') : G Γ M_L_shots (rm M_L_shots) W (118, 2682) 165 [some (.ref 800000)] [.int (nI 1)] Z := by
  refine G_if_eq (pc := 165) (tgt := 369) dL_shots_165 (by decide) (fun h => absurd h (by decide)) (fun _ => ?_)
  refine G_aload_n (pc := 168) dL_shots_168 rfl ?_
  refine G_iconst (pc := 169) (v := nI 0) dL_shots_169 (by first | rfl | decide) ?_
  refine G_iconst (pc := 170) (v := nI 4) dL_shots_170 (by first | rfl | decide) ?_
  refine G_iconst (pc := 171) (v := nI 2) dL_shots_171 (by first | rfl | decide) ?_
  refine R_V (pc := 172) (k' := (122, 2706)) mok_X9_shoot lk_L_36 (sh_k h.1) rfl rfl rfl rfl (aok0 rfl) dL_shots_172 (k_shoot hG h (by decide) (f := 0) (d := 4) (c := 1) (u := 0) (z := nI 2) (fr_lt h (m := 1) (by decide +kernel) ⟨by decide, by decide⟩) (by decide) ⟨by decide, by decide⟩ (by decide +kernel) (by decide) (by decide +kernel) (by decide +kernel) (by decide) (shW_0 (N := 6668014431327336181779142855572278308682255767059022143279561200624985199791581118835055314540675881914283432642945509748757728447947785036248541660886542771053976903477918607622904123171740496044806631288427777049426380507793535711448137811) (w := nI 1) (by decide +kernel) (by decide +kernel) (by decide +kernel))) (by decide) (by decide +kernel) rfl (fun Y' q => ?_)
  obtain ⟨-, g', A', h'⟩ := q
  refine G_val (w := (-4)) (by decide +kernel) ?_
  exact kk _ _ _ (CI_frz h' (by decide +kernel) (by decide +kernel))
theorem sh_8 {Γ : GTy} (hG : GS Γ) {W : WTy} {Z : HS} {g : GN} {A : FT} (h : CI 2 Z (toF shN_2) g A) (kk : ∀ (Z' : HS) (g' : GN) (A' : FT), CI 2 Z' (toF shN_2) g' A' → G Γ M_L_shots (rm M_L_shots) W (151, 2880) 222 [some (.ref 800000)] [.int (nI 1)] Z') : G Γ M_L_shots (rm M_L_shots) W (122, 2706) 175 [some (.ref 800000)] [.int ((-4))] Z := by
  refine G_bipush (pc := 175) (v := (-4)) dL_shots_175 (by first | rfl | decide) ?_
  refine G_icmp_ne (pc := 177) (tgt := 369) dL_shots_177 (by decide) (fun h => absurd h (by decide)) (fun _ => ?_)
  refine G_aload_n (pc := 180) dL_shots_180 rfl ?_
  refine G_iconst (pc := 181) (v := nI 0) dL_shots_181 (by first | rfl | decide) ?_
  refine G_bipush (pc := 182) (v := nI 83) dL_shots_182 (by first | rfl | decide) ?_
  refine G_bipush (pc := 184) (v := nI 74) dL_shots_184 (by first | rfl | decide) ?_
  refine G_bipush (pc := 186) (v := nI 59) dL_shots_186 (by first | rfl | decide) ?_
  refine G_bipush (pc := 188) (v := nI 91) dL_shots_188 (by first | rfl | decide) ?_
  refine G_bipush (pc := 190) (v := nI 76) dL_shots_190 (by first | rfl | decide) ?_
  refine G_bipush (pc := 192) (v := nI 77) dL_shots_192 (by first | rfl | decide) ?_
  refine R_S (pc := 194) (k' := (138, 2802)) (as := [.ref 800000, .int (nI 0), .int (nI 83), .int (nI 74), .int (nI 59), .int (nI 91), .int (nI 76), .int (nI 77)]) mok_L_bed lk_L_140 rfl rfl rfl (aok0 rfl) dL_shots_194 (C_bed h (fr_lt h (m := 1) (by decide +kernel) ⟨by decide, by decide⟩) (by decide +kernel) (by decide +kernel) (by decide +kernel) (by decide +kernel) (by decide +kernel) (by decide +kernel) (by decide +kernel) (by decide +kernel)) rfl (fun v Y' q => ?_)
  obtain ⟨rfl, rfl⟩ := q
  show G _ _ _ _ _ _ _ (_ :: _) _
  refine G_if_eq (pc := 197) (tgt := 369) dL_shots_197 (by decide) (fun h => absurd h (by decide)) (fun _ => ?_)
  refine G_aload_n (pc := 200) dL_shots_200 rfl ?_
  refine G_iconst (pc := 201) (v := nI 0) dL_shots_201 (by first | rfl | decide) ?_
  refine G_iconst (pc := 202) (v := nI 1) dL_shots_202 (by first | rfl | decide) ?_
  refine G_iconst (pc := 203) (v := nI 1) dL_shots_203 (by first | rfl | decide) ?_
  refine G_iconst (pc := 204) (v := nI 2) dL_shots_204 (by first | rfl | decide) ?_
  refine G_iconst (pc := 205) (v := nI 0) dL_shots_205 (by first | rfl | decide) ?_
  refine G_iconst (pc := 206) (v := nI 4) dL_shots_206 (by first | rfl | decide) ?_
  refine R_S (pc := 207) (k' := (145, 2844)) (as := [.ref 800000, .int (nI 0), .int (nI 1), .int (nI 1), .int (nI 2), .int (nI 0), .int (nI 4)]) mok_L_frame lk_L_144 rfl rfl rfl (aok0 rfl) dL_shots_207 (C_frame h (fr_lt h (m := 1) (by decide +kernel) ⟨by decide, by decide⟩) (by decide +kernel) (by decide +kernel) (by decide +kernel) (by decide +kernel) (by decide +kernel) (by decide +kernel) (by decide +kernel)) rfl (fun v Y' q => ?_)
  obtain ⟨rfl, rfl⟩ := q
  show G _ _ _ _ _ _ _ (_ :: _) _
  refine G_if_eq (pc := 210) (tgt := 369) dL_shots_210 (by decide) (fun h => absurd h (by decide)) (fun _ => ?_)
  refine G_aload_n (pc := 213) dL_shots_213 rfl ?_
  refine G_iconst (pc := 214) (v := nI 0) dL_shots_214 (by first | rfl | decide) ?_
  refine G_iconst (pc := 215) (v := nI 1) dL_shots_215 (by first | rfl | decide) ?_
  refine G_bipush (pc := 216) (v := nI 14) dL_shots_216 (by first | rfl | decide) ?_
  refine G_iconst (pc := 218) (v := nI 4) dL_shots_218 (by first | rfl | decide) ?_
  refine R_S (pc := 219) (k' := (151, 2880)) (as := [.ref 800000, .int (nI 0), .int (nI 1), .int (nI 14), .int (nI 4)]) mok_L_meets lk_L_148 rfl rfl rfl (aok0 rfl) dL_shots_219 (k_meets hG h (N := 916444925417870816276025539158515656736278643674964919341903795149772472640627186126371726697846590589887478275637003640655408475095149438353985448810706176424743568567324543969420407460016928671866611861777395355926375519872561256655036155929227690043) (fr_lt h (m := 1) (by decide +kernel) ⟨by decide, by decide⟩) (by decide) ⟨by decide, by decide⟩ (by decide +kernel) (by decide +kernel)) rfl (fun v Y' q => ?_)
  obtain ⟨rfl, q2⟩ := q
  show G _ _ _ _ _ _ _ (_ :: _) _
  exact kk _ _ _ q2
theorem sh_9 {Γ : GTy} (hG : GS Γ) {W : WTy} {Z : HS} {g : GN} {A : FT} (h : CI 2 Z (toF shN_2) g A) (kk : ∀ (Z' : HS) (g' : GN) (A' : FT), CI 3 Z' (toF shN_3) g' A' → G Γ M_L_shots (rm M_L_shots) W (155, 2904) 233 [some (.ref 800000)] [.int (nI 5)] Z') : G Γ M_L_shots (rm M_L_shots) W (151, 2880) 222 [some (.ref 800000)] [.int (nI 1)] Z := by
  refine G_if_eq (pc := 222) (tgt := 369) dL_shots_222 (by decide) (fun h => absurd h (by decide)) (fun _ => ?_)
  refine G_aload_n (pc := 225) dL_shots_225 rfl ?_
  refine G_iconst (pc := 226) (v := nI 0) dL_shots_226 (by first | rfl | decide) ?_
  refine G_iconst (pc := 227) (v := nI 1) dL_shots_227 (by first | rfl | decide) ?_
  refine G_bipush (pc := 228) (v := nI 19) dL_shots_228 (by first | rfl | decide) ?_
  refine R_V (pc := 230) (k' := (155, 2904)) mok_X9_shoot lk_L_36 (sh_k h.1) rfl rfl rfl rfl (aok0 rfl) dL_shots_230 (k_shoot hG h (by decide) (f := 0) (d := 1) (c := 2) (u := 1) (z := nI 19) (fr_lt h (m := 1) (by decide +kernel) ⟨by decide, by decide⟩) (by decide) ⟨by decide, by decide⟩ (by decide +kernel) (by decide) (by decide +kernel) (by decide +kernel) (by decide) (shW_0 (N := 916444925417870816276025539158515656736278643674964919341903795149772472640627186126371726697846590589887478275637003640655408475095149438353985448810706176424743568567324543969420407460016928671866611861777395355926375519872561256655036155929227690043) (w := nI 14) (by decide +kernel) (by decide +kernel) (by decide +kernel))) (by decide) (by decide +kernel) rfl (fun Y' q => ?_)
  obtain ⟨-, g', A', h'⟩ := q
  refine G_val (w := nI 5) (by decide +kernel) ?_
  exact kk _ _ _ (CI_frz h' (by decide +kernel) (by decide +kernel))
theorem sh_10 {Γ : GTy} (hG : GS Γ) {W : WTy} {Z : HS} {g : GN} {A : FT} (h : CI 3 Z (toF shN_3) g A) (kk : ∀ (Z' : HS) (g' : GN) (A' : FT), CI 3 Z' (toF shN_3) g' A' → G Γ M_L_shots (rm M_L_shots) W (184, 3078) 278 [some (.ref 800000)] [.int (nI 1)] Z') : G Γ M_L_shots (rm M_L_shots) W (155, 2904) 233 [some (.ref 800000)] [.int (nI 5)] Z := by
  refine G_iconst (pc := 233) (v := nI 5) dL_shots_233 (by first | rfl | decide) ?_
  refine G_icmp_ne (pc := 234) (tgt := 369) dL_shots_234 (by decide) (fun h => absurd h (by decide)) (fun _ => ?_)
  refine G_aload_n (pc := 237) dL_shots_237 rfl ?_
  refine G_iconst (pc := 238) (v := nI 0) dL_shots_238 (by first | rfl | decide) ?_
  refine G_bipush (pc := 239) (v := nI 59) dL_shots_239 (by first | rfl | decide) ?_
  refine G_bipush (pc := 241) (v := nI 74) dL_shots_241 (by first | rfl | decide) ?_
  refine G_bipush (pc := 243) (v := nI 93) dL_shots_243 (by first | rfl | decide) ?_
  refine G_bipush (pc := 245) (v := nI 91) dL_shots_245 (by first | rfl | decide) ?_
  refine G_iconst (pc := 247) (v := -1) dL_shots_247 (by first | rfl | decide) ?_
  refine G_bipush (pc := 248) (v := nI 77) dL_shots_248 (by first | rfl | decide) ?_
  refine R_S (pc := 250) (k' := (171, 3000)) (as := [.ref 800000, .int (nI 0), .int (nI 59), .int (nI 74), .int (nI 93), .int (nI 91), .int (-1), .int (nI 77)]) mok_L_bed lk_L_140 rfl rfl rfl (aok0 rfl) dL_shots_250 (C_bed h (fr_lt h (m := 1) (by decide +kernel) ⟨by decide, by decide⟩) (by decide +kernel) (by decide +kernel) (by decide +kernel) (by decide +kernel) (by decide +kernel) (by decide +kernel) (by decide +kernel) (by decide +kernel)) rfl (fun v Y' q => ?_)
  obtain ⟨rfl, rfl⟩ := q
  show G _ _ _ _ _ _ _ (_ :: _) _
  refine G_if_eq (pc := 253) (tgt := 369) dL_shots_253 (by decide) (fun h => absurd h (by decide)) (fun _ => ?_)
  refine G_aload_n (pc := 256) dL_shots_256 rfl ?_
  refine G_iconst (pc := 257) (v := nI 0) dL_shots_257 (by first | rfl | decide) ?_
  refine G_iconst (pc := 258) (v := nI 1) dL_shots_258 (by first | rfl | decide) ?_
  refine G_iconst (pc := 259) (v := nI 0) dL_shots_259 (by first | rfl | decide) ?_
  refine G_iconst (pc := 260) (v := nI 2) dL_shots_260 (by first | rfl | decide) ?_
  refine G_iconst (pc := 261) (v := nI 0) dL_shots_261 (by first | rfl | decide) ?_
  refine G_bipush (pc := 262) (v := nI 9) dL_shots_262 (by first | rfl | decide) ?_
  refine R_S (pc := 264) (k' := (178, 3042)) (as := [.ref 800000, .int (nI 0), .int (nI 1), .int (nI 0), .int (nI 2), .int (nI 0), .int (nI 9)]) mok_L_frame lk_L_144 rfl rfl rfl (aok0 rfl) dL_shots_264 (C_frame h (fr_lt h (m := 1) (by decide +kernel) ⟨by decide, by decide⟩) (by decide +kernel) (by decide +kernel) (by decide +kernel) (by decide +kernel) (by decide +kernel) (by decide +kernel) (by decide +kernel)) rfl (fun v Y' q => ?_)
  obtain ⟨rfl, rfl⟩ := q
  show G _ _ _ _ _ _ _ (_ :: _) _
  refine G_if_eq (pc := 267) (tgt := 369) dL_shots_267 (by decide) (fun h => absurd h (by decide)) (fun _ => ?_)
  refine G_aload_n (pc := 270) dL_shots_270 rfl ?_
  refine G_iconst (pc := 271) (v := nI 0) dL_shots_271 (by first | rfl | decide) ?_
  refine G_iconst (pc := 272) (v := nI 5) dL_shots_272 (by first | rfl | decide) ?_
  refine G_iconst (pc := 273) (v := nI 5) dL_shots_273 (by first | rfl | decide) ?_
  refine G_iconst (pc := 274) (v := nI 1) dL_shots_274 (by first | rfl | decide) ?_
  refine R_S (pc := 275) (k' := (184, 3078)) (as := [.ref 800000, .int (nI 0), .int (nI 5), .int (nI 5), .int (nI 1)]) mok_L_meets lk_L_148 rfl rfl rfl (aok0 rfl) dL_shots_275 (k_meets hG h (N := 57277807843617936843269940233730237707313715629948565936455693582135082433608897594534251555857065838061151718009575828692714692657166628261180997207607329684800868423710945551145731096849997650714638217591210545255651472134717288089564847426976612441) (fr_lt h (m := 1) (by decide +kernel) ⟨by decide, by decide⟩) (by decide) ⟨by decide, by decide⟩ (by decide +kernel) (by decide +kernel)) rfl (fun v Y' q => ?_)
  obtain ⟨rfl, q2⟩ := q
  show G _ _ _ _ _ _ _ (_ :: _) _
  exact kk _ _ _ q2
theorem sh_11 {Γ : GTy} (hG : GS Γ) {W : WTy} {Z : HS} {g : GN} {A : FT} (h : CI 3 Z (toF shN_3) g A) (kk : ∀ (Z' : HS) (g' : GN) (A' : FT), CI 4 Z' (toF shN_4) g' A' → G Γ M_L_shots (rm M_L_shots) W (188, 3102) 289 [some (.ref 800000)] [.int (nI 1)] Z') : G Γ M_L_shots (rm M_L_shots) W (184, 3078) 278 [some (.ref 800000)] [.int (nI 1)] Z := by
  refine G_if_eq (pc := 278) (tgt := 369) dL_shots_278 (by decide) (fun h => absurd h (by decide)) (fun _ => ?_)
  refine G_aload_n (pc := 281) dL_shots_281 rfl ?_
  refine G_iconst (pc := 282) (v := nI 0) dL_shots_282 (by first | rfl | decide) ?_
  refine G_iconst (pc := 283) (v := nI 5) dL_shots_283 (by first | rfl | decide) ?_
  refine G_bipush (pc := 284) (v := nI 7) dL_shots_284 (by first | rfl | decide) ?_
  refine R_V (pc := 286) (k' := (188, 3102)) mok_X9_shoot lk_L_36 (sh_k h.1) rfl rfl rfl rfl (aok0 rfl) dL_shots_286 (k_shoot hG h (by decide) (f := 0) (d := 5) (c := 2) (u := 1) (z := nI 7) (fr_lt h (m := 1) (by decide +kernel) ⟨by decide, by decide⟩) (by decide) ⟨by decide, by decide⟩ (by decide +kernel) (by decide) (by decide +kernel) (by decide +kernel) (by decide) (shW_0 (N := 57277807843617936843269940233730237707313715629948565936455693582135082433608897594534251555857065838061151718009575828692714692657166628261180997207607329684800868423710945551145731096849997650714638217591210545255651472134717288089564847426976612441) (w := nI 5) (by decide +kernel) (by decide +kernel) (by decide +kernel))) (by decide) (by decide +kernel) rfl (fun Y' q => ?_)
  obtain ⟨-, g', A', h'⟩ := q
  refine G_val (w := nI 1) (by decide +kernel) ?_
  exact kk _ _ _ (CI_frz h' (by decide +kernel) (by decide +kernel))
theorem sh_12 {Γ : GTy} (hG : GS Γ) {W : WTy} {Z : HS} {g : GN} {A : FT} (h : CI 4 Z (toF shN_4) g A) (kk : ∀ (Z' : HS) (g' : GN) (A' : FT), CI 5 Z' (toF shN_5) g' A' → G Γ M_L_shots (rm M_L_shots) W (215, 3264) 332 [some (.ref 800000)] [.int ((-4))] Z') : G Γ M_L_shots (rm M_L_shots) W (188, 3102) 289 [some (.ref 800000)] [.int (nI 1)] Z := by
  refine G_iconst (pc := 289) (v := nI 1) dL_shots_289 (by first | rfl | decide) ?_
  refine G_icmp_ne (pc := 290) (tgt := 369) dL_shots_290 (by decide) (fun h => absurd h (by decide)) (fun _ => ?_)
  refine G_aload_n (pc := 293) dL_shots_293 rfl ?_
  refine G_iconst (pc := 294) (v := nI 0) dL_shots_294 (by first | rfl | decide) ?_
  refine G_bipush (pc := 295) (v := nI 89) dL_shots_295 (by first | rfl | decide) ?_
  refine G_iconst (pc := 297) (v := -1) dL_shots_297 (by first | rfl | decide) ?_
  refine G_bipush (pc := 298) (v := nI 93) dL_shots_298 (by first | rfl | decide) ?_
  refine G_bipush (pc := 300) (v := nI 91) dL_shots_300 (by first | rfl | decide) ?_
  refine G_iconst (pc := 302) (v := -1) dL_shots_302 (by first | rfl | decide) ?_
  refine G_bipush (pc := 303) (v := nI 77) dL_shots_303 (by first | rfl | decide) ?_
  refine R_S (pc := 305) (k' := (204, 3198)) (as := [.ref 800000, .int (nI 0), .int (nI 89), .int (-1), .int (nI 93), .int (nI 91), .int (-1), .int (nI 77)]) mok_L_bed lk_L_140 rfl rfl rfl (aok0 rfl) dL_shots_305 (C_bed h (fr_lt h (m := 1) (by decide +kernel) ⟨by decide, by decide⟩) (by decide +kernel) (by decide +kernel) (by decide +kernel) (by decide +kernel) (by decide +kernel) (by decide +kernel) (by decide +kernel) (by decide +kernel)) rfl (fun v Y' q => ?_)
  obtain ⟨rfl, rfl⟩ := q
  show G _ _ _ _ _ _ _ (_ :: _) _
  refine G_if_eq (pc := 308) (tgt := 369) dL_shots_308 (by decide) (fun h => absurd h (by decide)) (fun _ => ?_)
  refine G_aload_n (pc := 311) dL_shots_311 rfl ?_
  refine G_iconst (pc := 312) (v := nI 0) dL_shots_312 (by first | rfl | decide) ?_
  refine G_iconst (pc := 313) (v := nI 2) dL_shots_313 (by first | rfl | decide) ?_
  refine G_iconst (pc := 314) (v := nI 0) dL_shots_314 (by first | rfl | decide) ?_
  refine G_iconst (pc := 315) (v := nI 2) dL_shots_315 (by first | rfl | decide) ?_
  refine G_iconst (pc := 316) (v := nI 0) dL_shots_316 (by first | rfl | decide) ?_
  refine G_bipush (pc := 317) (v := nI 10) dL_shots_317 (by first | rfl | decide) ?_
  refine R_S (pc := 319) (k' := (211, 3240)) (as := [.ref 800000, .int (nI 0), .int (nI 2), .int (nI 0), .int (nI 2), .int (nI 0), .int (nI 10)]) mok_L_frame lk_L_144 rfl rfl rfl (aok0 rfl) dL_shots_319 (C_frame h (fr_lt h (m := 1) (by decide +kernel) ⟨by decide, by decide⟩) (by decide +kernel) (by decide +kernel) (by decide +kernel) (by decide +kernel) (by decide +kernel) (by decide +kernel) (by decide +kernel)) rfl (fun v Y' q => ?_)
  obtain ⟨rfl, rfl⟩ := q
  show G _ _ _ _ _ _ _ (_ :: _) _
  refine G_if_eq (pc := 322) (tgt := 369) dL_shots_322 (by decide) (fun h => absurd h (by decide)) (fun _ => ?_)
  refine G_aload_n (pc := 325) dL_shots_325 rfl ?_
  refine G_iconst (pc := 326) (v := nI 0) dL_shots_326 (by first | rfl | decide) ?_
  refine G_iconst (pc := 327) (v := nI 2) dL_shots_327 (by first | rfl | decide) ?_
  refine G_iconst (pc := 328) (v := nI 4) dL_shots_328 (by first | rfl | decide) ?_
  refine R_V (pc := 329) (k' := (215, 3264)) mok_X9_shoot lk_L_36 (sh_k h.1) rfl rfl rfl rfl (aok0 rfl) dL_shots_329 (k_shoot hG h (by decide) (f := 0) (d := 2) (c := 2) (u := 1) (z := nI 4) (fr_lt h (m := 1) (by decide +kernel) ⟨by decide, by decide⟩) (by decide) ⟨by decide, by decide⟩ (by decide +kernel) (by decide) (by decide +kernel) (by decide +kernel) (by decide) (shW_0 (N := 6668014437537408550981978596168196262532265988086566211746347645181193351895784929580562859864189517228869344444896432537282021272634123560696727147235784757785863645407086409593826250756923144757154488788783872024791196853085099114429939803) (w := nI 3) (by decide +kernel) (by decide +kernel) (by decide +kernel))) (by decide) (by decide +kernel) rfl (fun Y' q => ?_)
  obtain ⟨-, g', A', h'⟩ := q
  refine G_val (w := (-4)) (by decide +kernel) ?_
  exact kk _ _ _ (CI_frz h' (by decide +kernel) (by decide +kernel))
theorem sh_13 {Γ : GTy} (hG : GS Γ) {W : WTy} {Z : HS} {g : GN} {A : FT} (h : CI 5 Z (toF shN_5) g A) (kk : ∀ (Z' : HS) (g' : GN) (A' : FT), CI 6 Z' (toF shN_6) g' A' → G Γ M_L_shots (rm M_L_shots) W (242, 3423) 377 [some (.ref 800000)] [.int (nI 0)] Z') : G Γ M_L_shots (rm M_L_shots) W (215, 3264) 332 [some (.ref 800000)] [.int ((-4))] Z := by
  refine G_bipush (pc := 332) (v := (-4)) dL_shots_332 (by first | rfl | decide) ?_
  refine G_icmp_ne (pc := 334) (tgt := 369) dL_shots_334 (by decide) (fun h => absurd h (by decide)) (fun _ => ?_)
  refine G_aload_n (pc := 337) dL_shots_337 rfl ?_
  refine G_iconst (pc := 338) (v := nI 0) dL_shots_338 (by first | rfl | decide) ?_
  refine G_bipush (pc := 339) (v := nI 91) dL_shots_339 (by first | rfl | decide) ?_
  refine G_iconst (pc := 341) (v := -1) dL_shots_341 (by first | rfl | decide) ?_
  refine G_bipush (pc := 342) (v := nI 93) dL_shots_342 (by first | rfl | decide) ?_
  refine G_bipush (pc := 344) (v := nI 92) dL_shots_344 (by first | rfl | decide) ?_
  refine G_iconst (pc := 346) (v := -1) dL_shots_346 (by first | rfl | decide) ?_
  refine G_bipush (pc := 347) (v := nI 77) dL_shots_347 (by first | rfl | decide) ?_
  refine R_S (pc := 349) (k' := (231, 3360)) (as := [.ref 800000, .int (nI 0), .int (nI 91), .int (-1), .int (nI 93), .int (nI 92), .int (-1), .int (nI 77)]) mok_L_bed lk_L_140 rfl rfl rfl (aok0 rfl) dL_shots_349 (C_bed h (fr_lt h (m := 1) (by decide +kernel) ⟨by decide, by decide⟩) (by decide +kernel) (by decide +kernel) (by decide +kernel) (by decide +kernel) (by decide +kernel) (by decide +kernel) (by decide +kernel) (by decide +kernel)) rfl (fun v Y' q => ?_)
  obtain ⟨rfl, rfl⟩ := q
  show G _ _ _ _ _ _ _ (_ :: _) _
  refine G_if_eq (pc := 352) (tgt := 369) dL_shots_352 (by decide) (fun h => absurd h (by decide)) (fun _ => ?_)
  refine G_aload_n (pc := 355) dL_shots_355 rfl ?_
  refine G_iconst (pc := 356) (v := nI 0) dL_shots_356 (by first | rfl | decide) ?_
  refine G_iconst (pc := 357) (v := nI 2) dL_shots_357 (by first | rfl | decide) ?_
  refine G_iconst (pc := 358) (v := nI 1) dL_shots_358 (by first | rfl | decide) ?_
  refine G_iconst (pc := 359) (v := nI 1) dL_shots_359 (by first | rfl | decide) ?_
  refine G_iconst (pc := 360) (v := nI 4) dL_shots_360 (by first | rfl | decide) ?_
  refine G_bipush (pc := 361) (v := nI 10) dL_shots_361 (by first | rfl | decide) ?_
  refine R_S (pc := 363) (k' := (238, 3402)) (as := [.ref 800000, .int (nI 0), .int (nI 2), .int (nI 1), .int (nI 1), .int (nI 4), .int (nI 10)]) mok_L_frame lk_L_144 rfl rfl rfl (aok0 rfl) dL_shots_363 (C_frame h (fr_lt h (m := 1) (by decide +kernel) ⟨by decide, by decide⟩) (by decide +kernel) (by decide +kernel) (by decide +kernel) (by decide +kernel) (by decide +kernel) (by decide +kernel) (by decide +kernel)) rfl (fun v Y' q => ?_)
  obtain ⟨rfl, rfl⟩ := q
  show G _ _ _ _ _ _ _ (_ :: _) _
  refine G_if_ne (pc := 366) (tgt := 371) dL_shots_366 (by decide) (fun _ => ?_) (fun h => absurd h (by decide))
  refine G_aload_n (pc := 371) dL_shots_371 rfl ?_
  refine G_iconst (pc := 372) (v := nI 0) dL_shots_372 (by first | rfl | decide) ?_
  refine G_iconst (pc := 373) (v := nI 1) dL_shots_373 (by first | rfl | decide) ?_
  refine R_V (pc := 374) (k' := (242, 3423)) mok_X9_lend lk_L_40 (sh_k h.1) rfl rfl rfl rfl (by exact (fun _ => ⟨rfl, fun r hr => by rw [List.mem_singleton.mp (show r ∈ [800000] from hr), sh_k h.1]; decide, fun _ hr => nomatch hr⟩)) dL_shots_374 (m_lend h (by decide) (u := 0) (c := 1) (by decide) (by decide)) (by decide) (by decide +kernel) rfl (fun Y' q => ?_)
  obtain ⟨-, g', A', h'⟩ := q
  refine G_val (w := nI 0) (by decide +kernel) ?_
  exact kk _ _ _ (CI_frz h' (by decide +kernel) (by decide +kernel))
theorem sh_14 {Γ : GTy} (hG : GS Γ) {W : WTy} {Z : HS} {g : GN} {A : FT} (h : CI 6 Z (toF shN_6) g A) (kk : ∀ (Z' : HS) (g' : GN) (A' : FT), CI 7 Z' (toF shN_6) g' A' → G Γ M_L_shots (rm M_L_shots) W (254, 3523) 389 [some (.ref 800000)] [.int ((-73))] Z') : G Γ M_L_shots (rm M_L_shots) W (242, 3423) 377 [some (.ref 800000)] [.int (nI 0)] Z := by
  refine G_if_ne (pc := 377) (tgt := 566) dL_shots_377 (by decide) (fun h => absurd h (by decide)) (fun _ => ?_)
  refine G_aload_n (pc := 380) dL_shots_380 rfl ?_
  refine G_bipush (pc := 381) (v := nI 10) dL_shots_381 (by first | rfl | decide) ?_
  refine G_iconst (pc := 383) (v := nI 0) dL_shots_383 (by first | rfl | decide) ?_
  refine G_iconst (pc := 384) (v := nI 2) dL_shots_384 (by first | rfl | decide) ?_
  refine G_iconst (pc := 385) (v := nI 0) dL_shots_385 (by first | rfl | decide) ?_
  refine K_SW5 (pc := 386) (k' := (254, 3523)) mok_L_act lk_L_122 rfl (by exact (fun _ => ⟨rfl, fun r hr => by rw [List.mem_singleton.mp (show r ∈ [800000] from hr), sh_k h.1]; decide, fun _ hr => nomatch hr⟩)) dL_shots_386 (act_10 (QV' := QA 6 _ _ ((-73))) (x := nI 0) (y := nI 2) (z := nI 0) h.1 (m_lend h (by decide) (u := 0) (c := 2) (by decide) (by decide)) es_3 (fun Z' q _ => absurd q (by decide +kernel)) (fun i E Z' q1 q2 q3 => ⟨one_x (i0 := 1) (by decide) (by decide +kernel) rfl q1 q2 xc_IS, q3⟩)) rfl (fun v Y' q => ?_) (fun E Y' q => q.elim)
  obtain ⟨rfl, -, g', A', h'⟩ := q
  show G _ _ _ _ _ _ _ (_ :: _) _
  exact kk _ _ _ (CI_frz h' (by decide +kernel) (by decide +kernel))
theorem sh_15 {Γ : GTy} (hG : GS Γ) {W : WTy} {Z : HS} {g : GN} {A : FT} (h : CI 7 Z (toF shN_6) g A) (kk : ∀ (Z' : HS) (g' : GN) (A' : FT), CI 8 Z' (toF shN_6) g' A' → G Γ M_L_shots (rm M_L_shots) W (266, 3623) 403 [some (.ref 800000)] [.int ((-73))] Z') : G Γ M_L_shots (rm M_L_shots) W (254, 3523) 389 [some (.ref 800000)] [.int ((-73))] Z := by
  refine G_bipush (pc := 389) (v := (-73)) dL_shots_389 (by first | rfl | decide) ?_
  refine G_icmp_ne (pc := 391) (tgt := 566) dL_shots_391 (by decide) (fun h => absurd h (by decide)) (fun _ => ?_)
  refine G_aload_n (pc := 394) dL_shots_394 rfl ?_
  refine G_bipush (pc := 395) (v := nI 10) dL_shots_395 (by first | rfl | decide) ?_
  refine G_iconst (pc := 397) (v := nI 1) dL_shots_397 (by first | rfl | decide) ?_
  refine G_iconst (pc := 398) (v := nI 1) dL_shots_398 (by first | rfl | decide) ?_
  refine G_iconst (pc := 399) (v := nI 0) dL_shots_399 (by first | rfl | decide) ?_
  refine K_SW5 (pc := 400) (k' := (266, 3623)) mok_L_act lk_L_122 rfl (by exact (fun _ => ⟨rfl, fun r hr => by rw [List.mem_singleton.mp (show r ∈ [800000] from hr), sh_k h.1]; decide, fun _ hr => nomatch hr⟩)) dL_shots_400 (act_10 (QV' := QA 7 _ _ ((-73))) (x := nI 1) (y := nI 1) (z := nI 0) h.1 (m_lend h (by decide) (u := 1) (c := 1) (by decide) (by decide)) es_3 (fun Z' q _ => absurd q (by decide +kernel)) (fun i E Z' q1 q2 q3 => ⟨one_x (i0 := 1) (by decide) (by decide +kernel) rfl q1 q2 xc_IS, q3⟩)) rfl (fun v Y' q => ?_) (fun E Y' q => q.elim)
  obtain ⟨rfl, -, g', A', h'⟩ := q
  show G _ _ _ _ _ _ _ (_ :: _) _
  exact kk _ _ _ (CI_frz h' (by decide +kernel) (by decide +kernel))
theorem sh_16 {Γ : GTy} (hG : GS Γ) {W : WTy} {Z : HS} {g : GN} {A : FT} (h : CI 8 Z (toF shN_6) g A) (kk : ∀ (Z' : HS) (g' : GN) (A' : FT), CI 8 Z' (toF shN_6) g' A' → G Γ M_L_shots (rm M_L_shots) W (278, 3695) 455 [some (.ref 800000)] [.int (nI 1)] Z') : G Γ M_L_shots (rm M_L_shots) W (266, 3623) 403 [some (.ref 800000)] [.int ((-73))] Z := by
  refine G_bipush (pc := 403) (v := (-73)) dL_shots_403 (by first | rfl | decide) ?_
  refine G_icmp_ne (pc := 405) (tgt := 566) dL_shots_405 (by decide) (fun h => absurd h (by decide)) (fun _ => ?_)
  refine G_aload_n (pc := 408) dL_shots_408 rfl ?_
  refine G_iconst (pc := 409) (v := nI 1) dL_shots_409 (by first | rfl | decide) ?_
  refine R_V (pc := 410) (k' := (267, 3629)) mok_X9_cueOf lk_L_74 (sh_k h.1) rfl rfl rfl rfl (aok0 rfl) dL_shots_410 (t_cueOf h (c := 1) (by decide)) (by decide) u2_e rfl (fun Y' q => ?_)
  subst q
  refine G_val (w := nI 0) (by decide +kernel) ?_
  refine G_if_ne (pc := 413) (tgt := 566) dL_shots_413 (by decide) (fun h => absurd h (by decide)) (fun _ => ?_)
  refine G_aload_n (pc := 416) dL_shots_416 rfl ?_
  refine G_iconst (pc := 417) (v := nI 2) dL_shots_417 (by first | rfl | decide) ?_
  refine R_V (pc := 418) (k' := (268, 3635)) mok_X9_cueOf lk_L_74 (sh_k h.1) rfl rfl rfl rfl (aok0 rfl) dL_shots_418 (t_cueOf h (c := 2) (by decide)) (by decide) u2_e rfl (fun Y' q => ?_)
  subst q
  refine G_val (w := -1) (by decide +kernel) ?_
  refine G_iconst (pc := 421) (v := -1) dL_shots_421 (by first | rfl | decide) ?_
  refine G_icmp_ne (pc := 422) (tgt := 566) dL_shots_422 (by decide) (fun h => absurd h (by decide)) (fun _ => ?_)
  refine G_aload_n (pc := 425) dL_shots_425 rfl ?_
  refine G_iconst (pc := 426) (v := nI 1) dL_shots_426 (by first | rfl | decide) ?_
  refine G_bipush (pc := 427) (v := nI 10) dL_shots_427 (by first | rfl | decide) ?_
  refine R_V (pc := 429) (k' := (270, 3647)) mok_X9_force lk_L_108 (sh_k h.1) rfl rfl rfl rfl (aok0 rfl) dL_shots_429 (t_force h (c := 1) (z := nI 10) (by decide) ⟨by decide, by decide⟩) (by decide) u2_e rfl (fun Y' q => ?_)
  subst q
  refine G_val (w := nI 10) (by decide +kernel) ?_
  refine G_bipush (pc := 432) (v := nI 10) dL_shots_432 (by first | rfl | decide) ?_
  refine G_icmp_ne (pc := 434) (tgt := 566) dL_shots_434 (by decide) (fun h => absurd h (by decide)) (fun _ => ?_)
  refine G_aload_n (pc := 437) dL_shots_437 rfl ?_
  refine G_iconst (pc := 438) (v := nI 1) dL_shots_438 (by first | rfl | decide) ?_
  refine G_bipush (pc := 439) (v := nI 20) dL_shots_439 (by first | rfl | decide) ?_
  refine R_S (pc := 441) (k' := (272, 3659)) (as := [.ref 800000, .int (nI 1), .int (nI 20)]) mok_L_owe lk_L_136 rfl rfl rfl (aok0 rfl) dL_shots_441 (C_owe h (by decide) (by decide +kernel)) rfl (fun v Y' q => ?_)
  obtain ⟨rfl, rfl⟩ := q
  show G _ _ _ _ _ _ _ (_ :: _) _
  refine G_if_eq (pc := 444) (tgt := 566) dL_shots_444 (by decide) (fun h => absurd h (by decide)) (fun _ => ?_)
  refine G_aload_n (pc := 447) dL_shots_447 rfl ?_
  refine G_iconst (pc := 448) (v := nI 0) dL_shots_448 (by first | rfl | decide) ?_
  refine G_iconst (pc := 449) (v := nI 2) dL_shots_449 (by first | rfl | decide) ?_
  refine G_iconst (pc := 450) (v := nI 1) dL_shots_450 (by first | rfl | decide) ?_
  refine G_iconst (pc := 451) (v := nI 2) dL_shots_451 (by first | rfl | decide) ?_
  refine R_S (pc := 452) (k' := (278, 3695)) (as := [.ref 800000, .int (nI 0), .int (nI 2), .int (nI 1), .int (nI 2)]) mok_L_meets lk_L_148 rfl rfl rfl (aok0 rfl) dL_shots_452 (k_meets hG h (N := 13336028870417262825061830386889454059677024310402474372142605456945230589713417001101995060735743807971799255038329672983170822926753488641060087471540686645701186014964513307161133742077781882791659399007886118445933506190108350403477241947) (fr_lt h (m := 1) (by decide +kernel) ⟨by decide, by decide⟩) (by decide) ⟨by decide, by decide⟩ (by decide +kernel) (by decide +kernel)) rfl (fun v Y' q => ?_)
  obtain ⟨rfl, q2⟩ := q
  show G _ _ _ _ _ _ _ (_ :: _) _
  exact kk _ _ _ q2
theorem sh_17 {Γ : GTy} (hG : GS Γ) {W : WTy} {Z : HS} {g : GN} {A : FT} (h : CI 8 Z (toF shN_6) g A) (kk : ∀ (Z' : HS) (g' : GN) (A' : FT), CI 9 Z' (toF shN_7) g' A' → G Γ M_L_shots (rm M_L_shots) W (282, 3719) 465 [some (.ref 800000)] [.int (nI 0)] Z') : G Γ M_L_shots (rm M_L_shots) W (278, 3695) 455 [some (.ref 800000)] [.int (nI 1)] Z := by
  refine G_if_eq (pc := 455) (tgt := 566) dL_shots_455 (by decide) (fun h => absurd h (by decide)) (fun _ => ?_)
  refine G_aload_n (pc := 458) dL_shots_458 rfl ?_
  refine G_iconst (pc := 459) (v := nI 0) dL_shots_459 (by first | rfl | decide) ?_
  refine G_iconst (pc := 460) (v := nI 2) dL_shots_460 (by first | rfl | decide) ?_
  refine G_iconst (pc := 461) (v := nI 1) dL_shots_461 (by first | rfl | decide) ?_
  refine R_V (pc := 462) (k' := (282, 3719)) mok_X9_shoot lk_L_36 (sh_k h.1) rfl rfl rfl rfl (aok0 rfl) dL_shots_462 (k_shoot hG h (by decide) (f := 0) (d := 2) (c := 1) (u := 0) (z := nI 1) (fr_lt h (m := 1) (by decide +kernel) ⟨by decide, by decide⟩) (by decide) ⟨by decide, by decide⟩ (by decide +kernel) (by decide) (by decide +kernel) (by decide +kernel) (by decide) (shW_1 (N := 13336028870417262825061830386889454059677024310402474372142605456945230589713417001101995060735743807971799255038329672983170822926753488641060087471540686645701186014964513307161133742077781882791659399007886118445933506190108350403477241947) (w := nI 1) (v := 0) (by decide +kernel) (by decide) (by decide +kernel) (by decide +kernel))) (by decide) (by decide +kernel) rfl (fun Y' q => ?_)
  obtain ⟨-, g', A', h'⟩ := q
  refine G_val (w := nI 0) (by decide +kernel) ?_
  exact kk _ _ _ (CI_frz h' (by decide +kernel) (by decide +kernel))
theorem sh_18 {Γ : GTy} (hG : GS Γ) {W : WTy} {Z : HS} {g : GN} {A : FT} (h : CI 9 Z (toF shN_7) g A) (kk : ∀ (Z' : HS) (g' : GN) (A' : FT), CI 10 Z' (toF shN_8) g' A' → G Γ M_L_shots (rm M_L_shots) W (308, 3875) 514 [some (.ref 800000)] [.int (nI 20)] Z') : G Γ M_L_shots (rm M_L_shots) W (282, 3719) 465 [some (.ref 800000)] [.int (nI 0)] Z := by
  refine G_if_ne (pc := 465) (tgt := 566) dL_shots_465 (by decide) (fun h => absurd h (by decide)) (fun _ => ?_)
  refine G_aload_n (pc := 468) dL_shots_468 rfl ?_
  refine G_iconst (pc := 469) (v := nI 0) dL_shots_469 (by first | rfl | decide) ?_
  refine G_bipush (pc := 470) (v := nI 91) dL_shots_470 (by first | rfl | decide) ?_
  refine G_iconst (pc := 472) (v := -1) dL_shots_472 (by first | rfl | decide) ?_
  refine G_bipush (pc := 473) (v := nI 94) dL_shots_473 (by first | rfl | decide) ?_
  refine G_bipush (pc := 475) (v := nI 92) dL_shots_475 (by first | rfl | decide) ?_
  refine G_iconst (pc := 477) (v := -1) dL_shots_477 (by first | rfl | decide) ?_
  refine G_bipush (pc := 478) (v := nI 77) dL_shots_478 (by first | rfl | decide) ?_
  refine R_S (pc := 480) (k' := (298, 3815)) (as := [.ref 800000, .int (nI 0), .int (nI 91), .int (-1), .int (nI 94), .int (nI 92), .int (-1), .int (nI 77)]) mok_L_bed lk_L_140 rfl rfl rfl (aok0 rfl) dL_shots_480 (C_bed h (fr_lt h (m := 1) (by decide +kernel) ⟨by decide, by decide⟩) (by decide +kernel) (by decide +kernel) (by decide +kernel) (by decide +kernel) (by decide +kernel) (by decide +kernel) (by decide +kernel) (by decide +kernel)) rfl (fun v Y' q => ?_)
  obtain ⟨rfl, rfl⟩ := q
  show G _ _ _ _ _ _ _ (_ :: _) _
  refine G_if_eq (pc := 483) (tgt := 566) dL_shots_483 (by decide) (fun h => absurd h (by decide)) (fun _ => ?_)
  refine G_aload_n (pc := 486) dL_shots_486 rfl ?_
  refine G_iconst (pc := 487) (v := nI 0) dL_shots_487 (by first | rfl | decide) ?_
  refine G_iconst (pc := 488) (v := nI 2) dL_shots_488 (by first | rfl | decide) ?_
  refine G_iconst (pc := 489) (v := nI 0) dL_shots_489 (by first | rfl | decide) ?_
  refine G_iconst (pc := 490) (v := nI 2) dL_shots_490 (by first | rfl | decide) ?_
  refine G_iconst (pc := 491) (v := nI 4) dL_shots_491 (by first | rfl | decide) ?_
  refine G_bipush (pc := 492) (v := nI 10) dL_shots_492 (by first | rfl | decide) ?_
  refine R_S (pc := 494) (k' := (305, 3857)) (as := [.ref 800000, .int (nI 0), .int (nI 2), .int (nI 0), .int (nI 2), .int (nI 4), .int (nI 10)]) mok_L_frame lk_L_144 rfl rfl rfl (aok0 rfl) dL_shots_494 (C_frame h (fr_lt h (m := 1) (by decide +kernel) ⟨by decide, by decide⟩) (by decide +kernel) (by decide +kernel) (by decide +kernel) (by decide +kernel) (by decide +kernel) (by decide +kernel) (by decide +kernel)) rfl (fun v Y' q => ?_)
  obtain ⟨rfl, rfl⟩ := q
  show G _ _ _ _ _ _ _ (_ :: _) _
  refine G_if_eq (pc := 497) (tgt := 566) dL_shots_497 (by decide) (fun h => absurd h (by decide)) (fun _ => ?_)
  refine G_aload_n (pc := 500) dL_shots_500 rfl ?_
  refine G_iconst (pc := 501) (v := nI 0) dL_shots_501 (by first | rfl | decide) ?_
  refine R_V (pc := 502) (k' := (306, 3863)) mok_X9_wear lk_L_105 (sh_k h.1) rfl rfl rfl rfl (aok0 rfl) dL_shots_502 (t_wear h (u := 0) (by decide)) (by decide) u2_e rfl (fun Y' q => ?_)
  subst q
  refine G_val (w := nI 1) (by decide +kernel) ?_
  refine G_iconst (pc := 505) (v := nI 1) dL_shots_505 (by first | rfl | decide) ?_
  refine G_icmp_ne (pc := 506) (tgt := 566) dL_shots_506 (by decide) (fun h => absurd h (by decide)) (fun _ => ?_)
  refine G_aload_n (pc := 509) dL_shots_509 rfl ?_
  refine G_iconst (pc := 510) (v := nI 0) dL_shots_510 (by first | rfl | decide) ?_
  refine R_V (pc := 511) (k' := (308, 3875)) mok_X9_takeBack lk_L_43 (sh_k h.1) rfl rfl rfl rfl (aok0 rfl) dL_shots_511 (k_takeBack h (by decide) (u := 0) (l := 2) (by decide) (by decide +kernel) (by decide)) (by decide) (by decide +kernel) rfl (fun Y' q => ?_)
  obtain ⟨-, g', A', h'⟩ := q
  refine G_val (w := nI 20) (by decide +kernel) ?_
  exact kk _ _ _ (CI_frz h' (by decide +kernel) (by decide +kernel))
theorem sh_19 {Γ : GTy} (hG : GS Γ) {W : WTy} {Z : HS} {g : GN} {A : FT} (h : CI 10 Z (toF shN_8) g A) (kk : ∀ (Z' : HS) (g' : GN) (A' : FT), CI 11 Z' (toF shN_8) g' A' → G Γ M_L_shots (rm M_L_shots) W (322, 3987) 537 [some (.ref 800000)] [.int ((-73))] Z') : G Γ M_L_shots (rm M_L_shots) W (308, 3875) 514 [some (.ref 800000)] [.int (nI 20)] Z := by
  refine G_bipush (pc := 514) (v := nI 20) dL_shots_514 (by first | rfl | decide) ?_
  refine G_icmp_ne (pc := 516) (tgt := 566) dL_shots_516 (by decide) (fun h => absurd h (by decide)) (fun _ => ?_)
  refine G_aload_n (pc := 519) dL_shots_519 rfl ?_
  refine G_iconst (pc := 520) (v := nI 1) dL_shots_520 (by first | rfl | decide) ?_
  refine G_iconst (pc := 521) (v := nI 0) dL_shots_521 (by first | rfl | decide) ?_
  refine R_S (pc := 522) (k' := (310, 3887)) (as := [.ref 800000, .int (nI 1), .int (nI 0)]) mok_L_owe lk_L_136 rfl rfl rfl (aok0 rfl) dL_shots_522 (C_owe h (by decide) (by decide +kernel)) rfl (fun v Y' q => ?_)
  obtain ⟨rfl, rfl⟩ := q
  show G _ _ _ _ _ _ _ (_ :: _) _
  refine G_if_eq (pc := 525) (tgt := 566) dL_shots_525 (by decide) (fun h => absurd h (by decide)) (fun _ => ?_)
  refine G_aload_n (pc := 528) dL_shots_528 rfl ?_
  refine G_bipush (pc := 529) (v := nI 11) dL_shots_529 (by first | rfl | decide) ?_
  refine G_iconst (pc := 531) (v := nI 0) dL_shots_531 (by first | rfl | decide) ?_
  refine G_iconst (pc := 532) (v := nI 0) dL_shots_532 (by first | rfl | decide) ?_
  refine G_iconst (pc := 533) (v := nI 0) dL_shots_533 (by first | rfl | decide) ?_
  refine K_SW5 (pc := 534) (k' := (322, 3987)) mok_L_act lk_L_122 rfl (by exact (fun _ => ⟨rfl, fun r hr => by rw [List.mem_singleton.mp (show r ∈ [800000] from hr), sh_k h.1]; decide, fun _ hr => nomatch hr⟩)) dL_shots_534 (act_11 (QV' := QA 10 _ _ ((-73))) (x := nI 0) (y := nI 0) (z := nI 0) h.1 (k_takeBack h (by decide) (u := 0) (l := 0) (by decide) (by decide +kernel) (by decide)) es_3 (fun Z' q _ => absurd q (by decide +kernel)) (fun i E Z' q1 q2 q3 => ⟨one_x (i0 := 1) (by decide) (by decide +kernel) rfl q1 q2 xc_IS, q3⟩)) rfl (fun v Y' q => ?_) (fun E Y' q => q.elim)
  obtain ⟨rfl, -, g', A', h'⟩ := q
  show G _ _ _ _ _ _ _ (_ :: _) _
  exact kk _ _ _ (CI_frz h' (by decide +kernel) (by decide +kernel))
theorem sh_20 {Γ : GTy} (hG : GS Γ) {W : WTy} {Z : HS} {g : GN} {A : FT} (h : CI 11 Z (toF shN_8) g A) (kk : ∀ (Z' : HS) (g' : GN) (A' : FT), CI 12 Z' (toF shN_9) g' A' → G Γ M_L_shots (rm M_L_shots) W (5634, 48063) 576 [some (.ref 800000)] [.int (nI 1)] Z') : G Γ M_L_shots (rm M_L_shots) W (322, 3987) 537 [some (.ref 800000)] [.int ((-73))] Z := by
  refine G_bipush (pc := 537) (v := (-73)) dL_shots_537 (by first | rfl | decide) ?_
  refine G_icmp_ne (pc := 539) (tgt := 566) dL_shots_539 (by decide) (fun h => absurd h (by decide)) (fun _ => ?_)
  refine G_aload_n (pc := 542) dL_shots_542 rfl ?_
  refine G_iconst (pc := 543) (v := nI 1) dL_shots_543 (by first | rfl | decide) ?_
  refine R_V (pc := 544) (k' := (323, 3993)) mok_X9_wins lk_L_68 (sh_k h.1) rfl rfl rfl rfl (aok0 rfl) dL_shots_544 (t_wins h (c := 1) (by decide)) (by decide) u2_e rfl (fun Y' q => ?_)
  subst q
  refine G_val (w := nI 0) (by rw [g16_of h (m := 1) (by decide +kernel) (by decide)]; decide +kernel) ?_
  refine G_if_ne (pc := 547) (tgt := 566) dL_shots_547 (by decide) (fun h => absurd h (by decide)) (fun _ => ?_)
  refine G_aload_n (pc := 550) dL_shots_550 rfl ?_
  refine G_iconst (pc := 551) (v := nI 1) dL_shots_551 (by first | rfl | decide) ?_
  refine R_V (pc := 552) (k' := (324, 3999)) mok_X9_rank lk_L_71 (sh_k h.1) rfl rfl rfl rfl (aok0 rfl) dL_shots_552 (t_rank h (c := 1) (by decide)) (by decide) u2_e rfl (fun Y' q => ?_)
  subst q
  refine G_val (w := nI 0) (by rw [g16_of h (m := 1) (by decide +kernel) (by decide)]; decide +kernel) ?_
  refine G_if_ne (pc := 555) (tgt := 566) dL_shots_555 (by decide) (fun h => absurd h (by decide)) (fun _ => ?_)
  refine G_aload_n (pc := 558) dL_shots_558 rfl ?_
  refine G_iconst (pc := 559) (v := nI 1) dL_shots_559 (by first | rfl | decide) ?_
  refine R_S (pc := 560) (k' := (5624, 47999)) (as := [.ref 800000, .int (nI 1)]) mok_L_refuses lk_L_132 rfl rfl rfl (by exact (fun _ => ⟨rfl, fun r hr => by rw [List.mem_singleton.mp (show r ∈ [800000] from hr), sh_k h.1]; decide, fun _ hr => nomatch hr⟩)) dL_shots_560 (k_refuses h (m := 1) (by decide +kernel) (by decide)) rfl (fun v Y' q => ?_)
  obtain ⟨rfl, rfl⟩ := q
  show G _ _ _ _ _ _ _ (_ :: _) _
  refine G_if_ne (pc := 563) (tgt := 568) dL_shots_563 (by decide) (fun _ => ?_) (fun h => absurd h (by decide))
  refine G_aload_n (pc := 568) dL_shots_568 rfl ?_
  refine G_iconst (pc := 569) (v := nI 1) dL_shots_569 (by first | rfl | decide) ?_
  refine G_iconst (pc := 570) (v := nI 4) dL_shots_570 (by first | rfl | decide) ?_
  refine G_iconst (pc := 571) (v := nI 5) dL_shots_571 (by first | rfl | decide) ?_
  refine G_iconst (pc := 572) (v := nI 1) dL_shots_572 (by first | rfl | decide) ?_
  refine R_V (pc := 573) (k' := (5634, 48063)) mok_X9_begin lk_L_29 (sh_k h.1) rfl rfl rfl rfl (by exact (fun _ => ⟨rfl, fun r hr => by rw [List.mem_singleton.mp (show r ∈ [800000] from hr), sh_k h.1]; decide, fun _ hr => nomatch hr⟩)) dL_shots_573 (k_begin hG h (by decide) (t := 1) (a := 4) (c := 5) (z := nI 1) (m := 1) (by decide) (by decide) (by decide) (Or.inr rfl) (by decide +kernel) (by decide)) (by decide) (by decide +kernel) rfl (fun Y' q => ?_)
  obtain ⟨-, g', A', h'⟩ := q
  refine G_val (w := nI 1) (by decide +kernel) ?_
  exact kk _ _ _ (CI_frz h' (by decide +kernel) (by decide +kernel))
theorem sh_21 {Γ : GTy} (hG : GS Γ) {W : WTy} {Z : HS} {g : GN} {A : FT} (h : CI 12 Z (toF shN_9) g A) (kk : ∀ (Z' : HS) (g' : GN) (A' : FT), CI 13 Z' (toF shN_10) g' A' → G Γ M_L_shots (rm M_L_shots) W (5638, 48087) 588 [some (.ref 800000)] [.int (nI 0)] Z') : G Γ M_L_shots (rm M_L_shots) W (5634, 48063) 576 [some (.ref 800000)] [.int (nI 1)] Z := by
  refine G_iconst (pc := 576) (v := nI 1) dL_shots_576 (by first | rfl | decide) ?_
  refine G_icmp_ne (pc := 577) (tgt := 832) dL_shots_577 (by decide) (fun h => absurd h (by decide)) (fun _ => ?_)
  refine G_aload_n (pc := 580) dL_shots_580 rfl ?_
  refine G_iconst (pc := 581) (v := nI 1) dL_shots_581 (by first | rfl | decide) ?_
  refine G_iconst (pc := 582) (v := nI 2) dL_shots_582 (by first | rfl | decide) ?_
  refine G_bipush (pc := 583) (v := nI 16) dL_shots_583 (by first | rfl | decide) ?_
  refine R_V (pc := 585) (k' := (5638, 48087)) mok_X9_shoot lk_L_36 (sh_k h.1) rfl rfl rfl rfl (aok0 rfl) dL_shots_585 (k_shoot hG h (by decide) (f := 1) (d := 2) (c := 4) (u := 0) (z := nI 16) (fr_lt h (m := 2) (by decide +kernel) ⟨by decide, by decide⟩) (by decide) ⟨by decide, by decide⟩ (by decide +kernel) (by decide) (by decide +kernel) (by decide +kernel) (by decide) (shW_0 (N := 53344115464591352284939523260919041865620569133784151300286759105251349940567107524857834493303318978269186394682416755919357093379020661263944705531165039095565843281935949630381571824427198990094158484153777751905126802125083838099526516810) (w := nI 12) (by decide +kernel) (by decide +kernel) (by decide +kernel))) (by decide) (by decide +kernel) rfl (fun Y' q => ?_)
  obtain ⟨-, g', A', h'⟩ := q
  refine G_val (w := nI 0) (by decide +kernel) ?_
  exact kk _ _ _ (CI_frz h' (by decide +kernel) (by decide +kernel))
